/-! ===== steps over tokens, faulted or not, in both ===== -/
def stp (K : Nat → Nat) (k : Nat) (s : Nat × Nat) : Nat × Nat := if s.1 = 0 then tkk K k s.2 else s
/-- a slip kept, or the first one -/
def slp (s : Nat × Nat) (bad : Bool) (k p : Nat) : Nat × Nat := if s.1 = 0 ∧ bad = true then (k, p) else s
def SlC (F : Nat → Nat → Int32) (s : Nat × Nat) : Prop := s.1 ≤ 5 ∧ F 37 5 = nI s.1 ∧ (¬ s.1 = 0 → F 37 6 = nI s.2) ∧ (s.1 = 0 → F 37 6 = -1)
def SlM (F : Nat → Int32) (s : Nat × Nat) : Prop := s.1 ≤ 5 ∧ F 15 = nI s.1 ∧ (¬ s.1 = 0 → F 16 = nI s.2)
theorem SlC.eq {F F' : Nat → Nat → Int32} {s : Nat × Nat} (h : SlC F s) (e : ∀ k, ¬ k = 2 → ¬ k = 3 → ¬ k = 4 → F' 37 k = F 37 k) : SlC F' s := ⟨h.1, by rw [e 5 (by decide) (by decide) (by decide)]; exact h.2.1, fun q => by rw [e 6 (by decide) (by decide) (by decide)]; exact h.2.2.1 q, fun q => by rw [e 6 (by decide) (by decide) (by decide)]; exact h.2.2.2 q⟩
theorem SlM.eq {F F' : Nat → Int32} {s : Nat × Nat} (h : SlM F s) (e : ∀ k, ¬ k = 11 → ¬ k = 13 → ¬ k = 14 → F' k = F k) : SlM F' s := ⟨h.1, by rw [e 15 (by decide) (by decide) (by decide)]; exact h.2.1, fun q => by rw [e 16 (by decide) (by decide) (by decide)]; exact h.2.2 q⟩
section S85
variable {M : Nat} {K V PL : Nat → Nat}
theorem stp_ok (h : TkK M K V) {k : Nat} {s : Nat × Nat} (hk : ¬ k = 18) (hs : s.2 ≤ M) (h2 : s.1 ≤ 2) : (s.2 ≤ (stp K k s).2 ∧ (stp K k s).2 ≤ M ∧ (stp K k s).1 ≤ 2) ∧ ((stp K k s).1 = 0 → s.1 = 0 ∧ (stp K k s).2 = s.2 + 1 ∧ K s.2 = k ∧ s.2 < 400) := by
  unfold stp
  by_cases c : s.1 = 0
  · rw [if_pos c]
    obtain ⟨q1, q2⟩ := tkk_ok h hk hs
    exact ⟨q1, fun z => ⟨c, q2 z⟩⟩
  · rw [if_neg c]
    exact ⟨⟨Nat.le_refl _, hs, h2⟩, fun z => absurd z c⟩
theorem c_stp {Fc Ac : Nat → Nat → Int32} {Bc : Nat → Nat → Int64} {r : Nat → Nat} (hK : TkK M K V) {k : Nat} {s : Nat × Nat} (hs : s.2 ≤ M) (h : CPo Fc PL s.1 s.2) (hk : CTk Ac Bc M K V PL) (hkk : k < 256) (hk18 : ¬ k = 18) : ∃ F' x, fX3_take 37 (nI k) (mkC Fc Ac Bc r) = some (x, mkC F' Ac Bc r) ∧ CPo F' PL (stp K k s).1 (stp K k s).2 ∧ (∀ c, ¬ c = 37 → F' c = Fc c) ∧ (∀ k, ¬ k = 2 → ¬ k = 3 → ¬ k = 4 → F' 37 k = Fc 37 k) ∧ (s.1 = 0 → x = nI s.2) := by
  unfold stp
  by_cases c : s.1 = 0
  · rw [if_pos c]
    rw [c] at h
    obtain ⟨F', z1, z2, z3, z4⟩ := c_take (B := Bc) (r := r) hK hs h hk hkk hk18
    exact ⟨F', _, z1, z2, z3, z4, fun _ => rfl⟩
  · rw [if_neg c]
    exact ⟨Fc, _, c_takeF h c _, h, fun _ _ => rfl, fun _ _ _ _ => rfl, fun q => absurd q c⟩
theorem m_stp {F : Nat → Int32} {A : Nat → Nat → Int32} {B : Nat → Nat → Int64} (hK : TkK M K V) {k : Nat} {s : Nat × Nat} (hs : s.2 ≤ M) (h : MPo F PL s.1 s.2) (hk : MTk A M K V PL) (hv : vk k = true) (hk18 : ¬ k = 18) : ∃ F', fX12_must 0 (nI (mkk k)) (mkM F A B) = some ((), mkM F' A B) ∧ MPo F' PL (stp K k s).1 (stp K k s).2 ∧ ∀ k, ¬ k = 11 → ¬ k = 13 → ¬ k = 14 → F' k = F k := by
  unfold stp
  by_cases c : s.1 = 0
  · rw [if_pos c]
    rw [c] at h
    exact m_must hK hs h hk hv hk18
  · rw [if_neg c]
    exact ⟨F, m_mustF h c _, h, fun _ _ _ _ => rfl⟩
/-- going on past a token that is known -/
theorem m_go {F : Nat → Int32} {A : Nat → Nat → Int32} {B : Nat → Nat → Int64} (hK : TkK M K V) {t k : Nat} (ht : t ≤ M) (h : MPo F PL 0 t) (hk : MTk A M K V PL) (e : K t = k) (hk18 : ¬ k = 18) : ∃ F', fX12_goesOn 0 (mkM F A B) = some ((), mkM F' A B) ∧ MPo F' PL (stp K k (0, t)).1 (stp K k (0, t)).2 ∧ ∀ k, ¬ k = 11 → ¬ k = 13 → ¬ k = 14 → F' k = F k := by
  obtain ⟨F', z1, z2, z3, z4⟩ := m_goesOn (B := B) hK ht h hk (by omega)
  refine ⟨F', z1, ?_, z4⟩
  unfold stp tkk
  rw [if_pos rfl, if_pos e]
  by_cases c4 : t < 400
  · rw [if_pos c4]; exact z2 c4
  · rw [if_neg c4]; exact z3 c4
theorem m_bnd {F : Nat → Int32} {A : Nat → Nat → Int32} {B : Nat → Nat → Int64} (hK : TkK M K V) {s w : Nat × Nat} {lo hi : Nat} (hs : s.2 ≤ M) (h : MPo F PL s.1 s.2) (hk : MTk A M K V PL) (hw : SlM F w) (hlt : ¬ w.1 = 0 → w.2 < PL s.2) (hpl : PL s.2 ≤ 2000) (hlo : lo ≤ 9999) (hhi : hi ≤ 9999) : ∃ F' x, fX12_bounded 0 (nI lo) (nI hi) (mkM F A B) = some (x, mkM F' A B) ∧ MPo F' PL (stp K 17 s).1 (stp K 17 s).2 ∧ (∀ k, ¬ (11 ≤ k ∧ k ≤ 16) → F' k = F k) ∧ F' 12 = F 12 ∧ ((stp K 17 s).1 = 0 → x = nI (V s.2) ∧ SlM F' (slp w (decide (V s.2 < lo ∨ hi < V s.2)) 5 (PL s.2))) := by
  unfold stp
  by_cases c : s.1 = 0
  · rw [if_pos c]
    rw [c] at h
    obtain ⟨F', x, z1, z2, z3, z4⟩ := m_bounded (B := B) (lo := lo) (hi := hi) hK hs h hk hw.2.1 hw.1 (fun q => ⟨hw.2.2 q, hlt q⟩) hpl hlo hhi
    refine ⟨F', x, z1, z2, fun k q => ?_, ?_, fun q => ?_⟩
    · rw [z3 k (by omega) (by omega) (by omega)]
      by_cases cc : K s.2 = 17 ∧ (V s.2 < lo ∨ hi < V s.2)
      · rw [if_pos cc, wrF_ne _ _ _ k (by omega) (by omega)]
      · rw [if_neg cc]
    · rw [z3 12 (by decide) (by decide) (by decide)]
      by_cases cc : K s.2 = 17 ∧ (V s.2 < lo ∨ hi < V s.2)
      · rw [if_pos cc, wrF_ne _ _ _ 12 (by decide) (by decide)]
      · rw [if_neg cc]
    · obtain ⟨_, k17, _⟩ := (tkk_ok hK (k := 17) (by decide) hs).2 q
      refine ⟨z4 k17, ?_⟩
      have e15 := z3 15 (by decide) (by decide) (by decide)
      have e16 := z3 16 (by decide) (by decide) (by decide)
      unfold slp
      by_cases bad : V s.2 < lo ∨ hi < V s.2
      · rw [if_pos (show K s.2 = 17 ∧ (V s.2 < lo ∨ hi < V s.2) from ⟨k17, bad⟩)] at e15 e16
        unfold wrF at e15 e16
        by_cases c0 : w.1 = 0
        · rw [if_pos c0] at e15 e16
          rw [if_pos ⟨c0, decide_eq_true bad⟩]
          exact ⟨Nat.le_refl _, by rw [e15, upd_ne (by decide), upd_at], fun _ => by rw [e16, upd_at]⟩
        · rw [if_neg c0] at e15 e16
          rw [if_neg (fun q => c0 q.1)]
          exact ⟨hw.1, by rw [e15]; exact hw.2.1, fun q => by rw [e16]; exact hw.2.2 q⟩
      · rw [if_neg (fun q => bad q.2)] at e15 e16
        rw [if_neg (fun q => bad (of_decide_eq_true q.2))]
        exact ⟨hw.1, by rw [e15]; exact hw.2.1, fun q => by rw [e16]; exact hw.2.2 q⟩
  · rw [if_neg c]
    exact ⟨F, _, m_boundedF h c _ _, h, fun _ _ => rfl, rfl, fun q => absurd q c⟩
theorem c_chk {Fc Ac : Nat → Nat → Int32} {Bc : Nat → Nat → Int64} {r : Nat → Nat} {w : Nat × Nat} {j v lo hi : Nat} (hw : SlC Fc w) (hj : j < 402) (h5 : Ac 5 j = nI (PL j)) (hv : Bc 6 j = jN v) (h9 : v ≤ 9999) (hlo : lo ≤ 9999) (hhi : hi ≤ 9999) : ∃ F', fX3_checkInt 37 (nI j) (nI lo) (nI hi) (mkC Fc Ac Bc r) = some ((), mkC F' Ac Bc r) ∧ SlC F' (slp w (decide (v < lo ∨ hi < v)) 5 (PL j)) ∧ (∀ c, ¬ c = 37 → F' c = Fc c) ∧ ∀ x, ¬ x = 5 → ¬ x = 6 → F' 37 x = Fc 37 x := by
  refine ⟨_, c_check hw.2.1 hw.1 hj hv h9 hlo hhi, ?_, ?_, ?_⟩
  · unfold slp
    by_cases bad : v < lo ∨ hi < v
    · rw [if_pos bad]
      unfold slF
      by_cases c0 : w.1 = 0
      · rw [if_pos c0, if_pos ⟨c0, decide_eq_true bad⟩]
        exact ⟨Nat.le_refl _, by rw [vau_at, upd_ne (by decide), upd_at], fun _ => by rw [vau_at, upd_at]; exact h5, fun q => absurd (show (5 : Nat) = 0 from q) (by decide)⟩
      · rw [if_neg c0, if_neg (fun q => c0 q.1)]
        exact hw
    · rw [if_neg bad, if_neg (fun q => bad (of_decide_eq_true q.2))]
      exact hw
  · intro c hc
    by_cases bad : v < lo ∨ hi < v
    · rw [if_pos bad]; exact (slF_ne _ _ _).1 c hc
    · rw [if_neg bad]
  · intro x q1 q2
    by_cases bad : v < lo ∨ hi < v
    · rw [if_pos bad]; exact (slF_ne _ _ _).2 x q1 q2
    · rw [if_neg bad]
theorem slp_lt {w : Nat × Nat} {b : Bool} {k p q p0 : Nat} (h : ¬ w.1 = 0 → w.2 < p0) (h0 : p0 ≤ q) (hp : p < q) : ¬ (slp w b k p).1 = 0 → (slp w b k p).2 < q := by
  unfold slp
  by_cases c : w.1 = 0 ∧ b = true
  · rw [if_pos c]
    exact fun _ => hp
  · rw [if_neg c]
    exact fun z => Nat.lt_of_lt_of_le (h z) h0
theorem slp_0 {w : Nat × Nat} {b : Bool} {k p : Nat} (hk : ¬ k = 0) (h : (slp w b k p).1 = 0) : w.1 = 0 ∧ b = false := by
  unfold slp at h
  by_cases c : w.1 = 0 ∧ b = true
  · rw [if_pos c] at h
    exact absurd h hk
  · rw [if_neg c] at h
    refine ⟨h, ?_⟩
    cases b with
    | false => rfl
    | true => exact absurd ⟨h, rfl⟩ c
end S85
