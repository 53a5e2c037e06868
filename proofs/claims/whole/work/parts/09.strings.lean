/-! ===== the two String constants ===== -/
def sx_ix (c : Int32) : Int32 := if c = 59 then 0 else if c = 61 then 1 else if c = 43 then 2 else if c = 45 then 3 else if c = 42 then 4 else if c = 47 then 5 else if c = 60 then 6 else if c = 40 then 7 else if c = 41 then 8 else -1
section HY
variable {G : GP} {M : Mt} {h mc ms n0 : Nat} {ρ : Type} {inj : ρ → Option Value} {kc ks pc : Nat} {lv : List (Nat × Value)} {st : List Value} {σ : Sto} {X : Option (ρ × Sto)}
theorem hj_sidx {i : Nat} {x : Int32} (j : Nat) (d1 : decode M.2.1 pc = .ok (.ldc 69, 2)) (d2 : decode M.2.1 (pc + 2) = .ok (.iload i, 2)) (d3 : decode M.2.1 (pc + 2 + 2) = .ok (.invokevirtual 71, 3)) (hk : lv[j]? = some (i, .int x)) (hh : 7 ≤ h) (hsum : (st.map fun v => v.category).sum ≤ 8) (hown : M.1.cls = RX9) (h1 : kc = mc) (h2 : ks = ms) (hx : 0 ≤ 0) (k : Sim G M h mc ms n0 inj kc ks (pc + 2 + 2 + 3) lv (.int (sx_ix x) :: st) σ X) : Sim G M h mc ms n0 inj kc ks pc lv st σ X := by
  sorry
end HY
