/-! ===== a book of a pile is told: the class ===== -/
theorem GoodP.put {nb b : Nat} {P : AP} {p : Int} {g : Int32} (hnb : nb ≤ 6) (h : GoodP nb P) (hb : b < nb) (hn : ∀ i, i < P.1 → ¬ P.2.1 i = b) (hp : -999 ≤ p ∧ p ≤ 999) (hg : g = 0 ∨ g = 1) : P.1 < 6 ∧ GoodP nb (apPut P b p g) := by
  have b1 : ∀ i, i < P.1 + 1 → (fun i => if i = P.1 then b else P.2.1 i) i < nb := fun i hi => by
    by_cases c : i = P.1
    · simp only [if_pos c]; exact hb
    · simp only [if_neg c]; exact h.2.1 i (by omega)
  have b2 : ∀ i j, i < P.1 + 1 → j < P.1 + 1 → (fun i => if i = P.1 then b else P.2.1 i) i = (fun i => if i = P.1 then b else P.2.1 i) j → i = j := fun i j hi hj e => by
    by_cases c : i = P.1
    · by_cases c' : j = P.1
      · rw [c, c']
      · simp only [if_pos c, if_neg c'] at e
        exact absurd e.symm (hn j (by omega))
    · by_cases c' : j = P.1
      · simp only [if_neg c, if_pos c'] at e
        exact absurd e (hn i (by omega))
      · simp only [if_neg c, if_neg c'] at e
        exact h.2.2.1 i j (by omega) (by omega) e
  have q := pig (P.1 + 1) nb _ b1 b2
  refine ⟨by omega, ?_, b1, b2, fun i hi => ?_, fun i hi => ?_⟩
  · show P.1 + 1 ≤ 6
    omega
  · have hi' : i < P.1 + 1 := hi
    show -999 ≤ (if i = P.1 then p else P.2.2.1 i) ∧ (if i = P.1 then p else P.2.2.1 i) ≤ 999
    by_cases c : i = P.1
    · rw [if_pos c]; exact hp
    · rw [if_neg c]; exact h.2.2.2.1 i (by omega)
  · have hi' : i < P.1 + 1 := hi
    show (if i = P.1 then g else P.2.2.2 i) = 0 ∨ (if i = P.1 then g else P.2.2.2 i) = 1
    by_cases c : i = P.1
    · rw [if_pos c]; exact hg
    · rw [if_neg c]; exact h.2.2.2.2 i (by omega)
/-- a token that may stand there -/
def opt (K : Nat → Nat) (k : Nat) (s : Nat × Nat) : Nat × Nat := if s.1 = 0 ∧ K s.2 = k then stp K k s else s
section P96
variable {d M : Nat} {K V : Nat → Nat} {NM : Nat → List Nat} {PL : Nat → Nat} {r : Nat → Nat}
theorem opt_ok (h : TkK M K V) {k : Nat} {s : Nat × Nat} (hk : ¬ k = 18) (hs : s.2 ≤ M) (h2 : s.1 ≤ 2) : (s.2 ≤ (opt K k s).2 ∧ (opt K k s).2 ≤ M ∧ (opt K k s).1 ≤ 2) ∧ ((opt K k s).1 = 0 → s.1 = 0) := by
  unfold opt
  by_cases c : s.1 = 0 ∧ K s.2 = k
  · rw [if_pos c]
    have q := stp_ok h hk hs h2
    exact ⟨q.1, fun _ => c.1⟩
  · rw [if_neg c]
    exact ⟨⟨Nat.le_refl _, hs, h2⟩, fun q => q⟩
theorem opt_F {k : Nat} {s : Nat × Nat} (h : ¬ s.1 = 0) : opt K k s = s := by
  unfold opt
  rw [if_neg (fun q => h q.1)]
/-- the class looks for it -/
theorem c_opt {Fc Ac : Nat → Nat → Int32} {Bc : Nat → Nat → Int64} (hK : TkK M K V) {k : Nat} {s : Nat × Nat} (hs : s.2 ≤ M) (h : CPo Fc PL s.1 s.2) (hk : CTk Ac Bc M K V PL) (hkk : k < 256) (hk18 : ¬ k = 18) : ∃ x F', x ≤ 400 ∧ Fc 37 2 = nI x ∧ CPo F' PL (opt K k s).1 (opt K k s).2 ∧ (∀ c, ¬ c = 37 → F' c = Fc c) ∧ (∀ k, ¬ k = 2 → ¬ k = 3 → ¬ k = 4 → F' 37 k = Fc 37 k) ∧ (s.1 = 0 → (Ac 4 x = nI k ↔ K s.2 = k)) ∧ (Ac 4 x = nI k → ∃ y, fX3_take 37 (nI k) (mkC Fc Ac Bc r) = some (y, mkC F' Ac Bc r)) ∧ (¬ Ac 4 x = nI k → F' = Fc) := by
  obtain ⟨x, x1, x2, x3⟩ := h.2.1
  by_cases c : s.1 = 0
  · have ex := x3 c
    have kx : Ac 4 x = nI (K s.2) := by rw [ex]; exact (hk _ hs).1
    have kl := vk_lt (hK.2.1 _ hs).1
    have iff : Ac 4 x = nI k ↔ K s.2 = k := by
      rw [kx]
      exact nI_eq (by omega) (by omega)
    by_cases e : K s.2 = k
    · obtain ⟨F', y, z1, z2, z3, z4, z5⟩ := c_stp (Bc := Bc) (r := r) hK hs h hk hkk hk18
      have eo : opt K k s = stp K k s := by
        unfold opt
        rw [if_pos ⟨c, e⟩]
      rw [eo]
      exact ⟨x, F', x1, x2, z2, z3, z4, fun _ => iff, fun _ => ⟨y, z1⟩, fun q => absurd (iff.2 e) q⟩
    · have eo : opt K k s = s := by
        unfold opt
        rw [if_neg (fun q => e q.2)]
      rw [eo]
      exact ⟨x, Fc, x1, x2, h, fun _ _ => rfl, fun _ _ _ _ => rfl, fun _ => iff, fun q => absurd (iff.1 q) e, fun _ => rfl⟩
  · rw [opt_F c]
    exact ⟨x, Fc, x1, x2, h, fun _ _ => rfl, fun _ _ _ _ => rfl, fun q => absurd q c, fun _ => ⟨_, c_takeF h c _⟩, fun _ => rfl⟩
/-- the class's level of a book, whatever lies there -/
theorem c_levelA {Fc Ac : Nat → Nat → Int32} {Bc : Nat → Nat → Int64} {h n : Nat} {x : Int32} (hp : PA h) (hn : n ≤ 6) (h0 : Fc h 0 = nI n) : ∃ y, fX5_levelOf h x (mkC Fc Ac Bc r) = some (y, mkC Fc Ac Bc r) := by
  obtain ⟨p0, p1, p2, p3⟩ := hp
  have key : ∀ k i fuel, i + k = n → k < fuel → ∃ y, fX5_levelOf_b2 fuel h x (nI i) (mkC Fc Ac Bc r) = some (y, mkC Fc Ac Bc r) := by
    intro k
    induction k with
    | zero =>
      intro i fuel h1 h2
      obtain ⟨fuel, rfl⟩ : ∃ q, fuel = q + 1 := ⟨fuel - 1, by omega⟩
      have n1 : nI n ≤ nI i := nI_le (by omega) (by omega)
      refine ⟨-1, ?_⟩
      rw [fX5_levelOf_b2]
      simp -implicitDefEqProofs (disch := first | assumption | omega | decide | exact And.intro (by omega) (by omega)) only [cck_0, cr0_0, cr0_1, cr0_2, cr0_3, cg0_4, cp0_4, cg0_5, cp0_5, cck_1, cg1_0, cp1_0, cr1_1, cr1_2, cr1_3, cg1_4, cp1_4, cg1_5, cp1_5, cr1_6, cr1_7, cck_2, cr2_0, cr2_1, cr2_2, cck_3, cr3_0, cr3_1, cg3_2, cp3_2, cg3_3, cp3_3, cg3_4, cp3_4, cg3_5, cp3_5, cg3_6, cp3_6, cg3_7, cp3_7, cg3_8, cp3_8, cck_4, cg4_0, cp4_0, cg4_1, cp4_1, cr4_2, cr4_3, cr4_4, cr4_5, cck_5, cg5_0, cp5_0, cr5_1, cr5_2, cr5_3, cck_6, cg6_0, cp6_0, cg6_1, cp6_1, cck_7, cg7_0, cp7_0, cg7_1, cp7_1, cr7_2, cr7_3, cr7_4, cr7_5, cr7_6, cr7_7, cr7_8, cck_8, cr8_0, cr8_1, cck_9, cr9_0, cr9_1, cr9_2, cr9_3, cg9_4, cp9_4, cck_10, cg10_0, cp10_0, cr10_1, cr10_2, cr10_3, cr10_4, cg10_5, cp10_5, cr10_6, cr10_7, cr10_8, cg10_9, cp10_9, cg10_10, cp10_10, cr10_11, cr10_12, cr10_13, cr10_14, cck_11, cr11_0, cg11_1, cp11_1, cr11_2, cr11_3, cr11_4, cr11_5, cr11_6, cr11_7, cr11_8, cr11_9, cr11_10, cr11_11, cr11_12, cr11_13, cr11_14, ca_30, cs_30, ca_31, cs_31, ca_32, cs_32, ca_33, cs_33, ca_34, cs_34, ca_35, cs_35, ca_36, cs_36, ca_37, cs_37, ca_38, cs_38, ca_39, cs_39, ca_40, cs_40, ca_41, cs_41, ca_42, cs_42, car_20, car_21, car_22, cq11_3, cq11_4, cq3_1, cq0_0, cq0_1, if_true, if_false, Option.bind_some, cb_e, lt_e, nI_1, hs_nar2, nh4, upd_at, vau_at, ca_42_0, cs_42_0, h0, if_pos n1]
    | succ k ih =>
      intro i fuel h1 h2
      obtain ⟨fuel, rfl⟩ : ∃ q, fuel = q + 1 := ⟨fuel - 1, by omega⟩
      have n1 : ¬ nI n ≤ nI i := nI_ge (by omega) (by omega)
      have hi6 : i < 6 := by omega
      obtain ⟨y, hy⟩ := ih (i + 1) fuel (by omega) (by omega)
      rw [fX5_levelOf_b2]
      simp -implicitDefEqProofs (disch := first | assumption | omega | decide | exact And.intro (by omega) (by omega)) only [cck_0, cr0_0, cr0_1, cr0_2, cr0_3, cg0_4, cp0_4, cg0_5, cp0_5, cck_1, cg1_0, cp1_0, cr1_1, cr1_2, cr1_3, cg1_4, cp1_4, cg1_5, cp1_5, cr1_6, cr1_7, cck_2, cr2_0, cr2_1, cr2_2, cck_3, cr3_0, cr3_1, cg3_2, cp3_2, cg3_3, cp3_3, cg3_4, cp3_4, cg3_5, cp3_5, cg3_6, cp3_6, cg3_7, cp3_7, cg3_8, cp3_8, cck_4, cg4_0, cp4_0, cg4_1, cp4_1, cr4_2, cr4_3, cr4_4, cr4_5, cck_5, cg5_0, cp5_0, cr5_1, cr5_2, cr5_3, cck_6, cg6_0, cp6_0, cg6_1, cp6_1, cck_7, cg7_0, cp7_0, cg7_1, cp7_1, cr7_2, cr7_3, cr7_4, cr7_5, cr7_6, cr7_7, cr7_8, cck_8, cr8_0, cr8_1, cck_9, cr9_0, cr9_1, cr9_2, cr9_3, cg9_4, cp9_4, cck_10, cg10_0, cp10_0, cr10_1, cr10_2, cr10_3, cr10_4, cg10_5, cp10_5, cr10_6, cr10_7, cr10_8, cg10_9, cp10_9, cg10_10, cp10_10, cr10_11, cr10_12, cr10_13, cr10_14, cck_11, cr11_0, cg11_1, cp11_1, cr11_2, cr11_3, cr11_4, cr11_5, cr11_6, cr11_7, cr11_8, cr11_9, cr11_10, cr11_11, cr11_12, cr11_13, cr11_14, ca_30, cs_30, ca_31, cs_31, ca_32, cs_32, ca_33, cs_33, ca_34, cs_34, ca_35, cs_35, ca_36, cs_36, ca_37, cs_37, ca_38, cs_38, ca_39, cs_39, ca_40, cs_40, ca_41, cs_41, ca_42, cs_42, car_20, car_21, car_22, cq11_3, cq11_4, cq3_1, cq0_0, cq0_1, if_true, if_false, Option.bind_some, cb_e, lt_e, nI_1, hs_nar2, nh4, upd_at, vau_at, ca_42_0, cs_42_0, h0, if_neg n1]
      by_cases c : Ac (h + 1) i = x
      · rw [if_pos c]
        exact ⟨_, rfl⟩
      · rw [if_neg c]
        exact ⟨y, hy⟩
  obtain ⟨y, hy⟩ := key n 0 FU (by omega) (by unfold FU; omega)
  refine ⟨y, ?_⟩
  unfold fX5_levelOf
  rw [cck_5 p0]
  exact hy
/-- where the tokens of a book in a pile end; the int's token -/
def pi1 (K : Nat → Nat) (t : Nat) : Nat × Nat := stp K 5 (stp K 16 (0, t))
def pi2 (K : Nat → Nat) (t : Nat) : Nat × Nat := opt K 45 (pi1 K t)
def pi3 (K : Nat → Nat) (t : Nat) : Nat × Nat := stp K 17 (pi2 K t)
def pi4 (K : Nat → Nat) (t : Nat) : Nat × Nat := opt K 6 (pi3 K t)
/-- the place told, and whether it is glued -/
def piV (K V : Nat → Nat) (t : Nat) : Int := if K (pi1 K t).2 = 45 then -(V (pi2 K t).2 : Int) else (V (pi2 K t).2 : Int)
def piG (K : Nat → Nat) (t : Nat) : Int32 := if K (pi3 K t).2 = 6 then 1 else 0
/-- slips: unknown, twice, the int -/
def slP (K V PL : Nat → Nat) (w : Nat × Nat) (un tw : Bool) (t : Nat) : Nat × Nat := slp (slp (slp w un 4 (PL t)) tw 3 (PL t)) (decide (V (pi2 K t).2 < 0 ∨ 999 < V (pi2 K t).2)) 5 (PL (pi2 K t).2)
theorem slP_n0 {w : Nat × Nat} {un tw : Bool} {t : Nat} (hw : ¬ w.1 = 0) : slP K V PL w un tw t = w := by
  unfold slP
  rw [slp_n0 (b := un) hw, slp_n0 (b := tw) hw, slp_n0 hw]
theorem slP_0 {w : Nat × Nat} {un tw : Bool} {t : Nat} (hw : (slP K V PL w un tw t).1 = 0) : w.1 = 0 ∧ un = false ∧ tw = false ∧ V (pi2 K t).2 ≤ 999 := by
  unfold slP at hw
  obtain ⟨h1, h2⟩ := slp_0 (by decide) hw
  obtain ⟨h3, h4⟩ := slp_0 (by decide) h1
  obtain ⟨h5, h6⟩ := slp_0 (by decide) h3
  have i2 := of_decide_eq_false h2
  exact ⟨h5, h6, h4, by omega⟩
theorem pi_ok (hK : TkK M K V) {t : Nat} (ht : t ≤ M) : ((pi1 K t).2 ≤ M ∧ (pi1 K t).1 ≤ 2) ∧ ((pi2 K t).2 ≤ M ∧ (pi2 K t).1 ≤ 2) ∧ ((pi3 K t).2 ≤ M ∧ (pi3 K t).1 ≤ 2) ∧ ((pi4 K t).2 ≤ M ∧ (pi4 K t).1 ≤ 2) ∧ ((pi4 K t).1 = 0 → (pi3 K t).1 = 0) ∧ ((pi3 K t).1 = 0 → (pi2 K t).1 = 0 ∧ K (pi2 K t).2 = 17) ∧ ((pi2 K t).1 = 0 → (pi1 K t).1 = 0 ∧ t + 2 ≤ (pi2 K t).2) ∧ ((pi1 K t).1 = 0 → (stp K 16 (0, t)).1 = 0 ∧ K t = 16 ∧ (stp K 16 (0, t)).2 = t + 1) ∧ ((pi4 K t).1 = 0 → (pi2 K t).2 < (pi4 K t).2) := by
  obtain ⟨⟨a1, a2, a3⟩, a4⟩ := stp_ok hK (k := 16) (s := (0, t)) (by decide) ht (Nat.zero_le _)
  obtain ⟨⟨b1, b2, b3⟩, b4⟩ := stp_ok hK (k := 5) (s := stp K 16 (0, t)) (by decide) a2 a3
  obtain ⟨⟨c1, c2, c3⟩, c4⟩ := opt_ok hK (k := 45) (s := pi1 K t) (by decide) b2 b3
  obtain ⟨⟨d1, d2, d3⟩, d4⟩ := stp_ok hK (k := 17) (s := pi2 K t) (by decide) c2 c3
  obtain ⟨⟨e1, e2, e3⟩, e4⟩ := opt_ok hK (k := 6) (s := pi3 K t) (by decide) d2 d3
  refine ⟨⟨b2, b3⟩, ⟨c2, c3⟩, ⟨d2, d3⟩, ⟨e2, e3⟩, e4, fun q => ⟨(d4 q).1, (d4 q).2.2.1⟩, fun q => ?_, fun q => ?_, fun q => ?_⟩
  · have q1 := c4 q
    refine ⟨q1, ?_⟩
    obtain ⟨z1, z2, _⟩ := b4 q1
    obtain ⟨_, z4, _⟩ := a4 z1
    have z4' : (stp K 16 (0, t)).2 = t + 1 := z4
    have c1' : (pi1 K t).2 ≤ (pi2 K t).2 := c1
    have z2' : (pi1 K t).2 = (stp K 16 (0, t)).2 + 1 := z2
    omega
  · obtain ⟨z1, _⟩ := b4 q
    obtain ⟨_, z4, z5, _⟩ := a4 z1
    exact ⟨z1, z5, z4⟩
  · have q1 := e4 q
    have z : (pi3 K t).2 = (pi2 K t).2 + 1 := (d4 q1).2.1
    have e1' : (pi3 K t).2 ≤ (pi4 K t).2 := e1
    omega
theorem c_piled {Fc Ac : Nat → Nat → Int32} {Bc : Nat → Nat → Int64} {w : Nat × Nat} {t nc q : Nat} {g : Nat → List Nat} {P : AP} (hd : d = 7 ∨ d = 22) (hr : r 2 = d) (hK : TkK M K V) (ht : t ≤ M) (hcp : CPo Fc PL 0 t) (ck : CTk Ac Bc M K V PL) (hnm : ∀ j, j ≤ M → K j = 16 → Bc 6 j = jN (cN 32 (NM j)) ∧ Nam (NM j)) (hw : SlC Fc w) (h0 : Fc d 0 = nI nc) (hnc : nc ≤ 6) (hg : ∀ i, i < nc → Bc (d + 1) i = jN (cN 32 (g i)) ∧ Nam (g i)) (hq : q ≤ 6) (hpq : Fc (d + 11) 0 = nI q) (hP : w.1 = 0 → CPile Fc Ac (d + 11) P ∧ GoodP nc P) : ∃ F' A' tw, fX3_tellPiled 37 (mkC Fc Ac Bc r) = some ((), mkC F' A' Bc r) ∧ CPo F' PL (pi4 K t).1 (pi4 K t).2 ∧ (∀ c, ¬ c = 37 → ¬ c = d + 11 → F' c = Fc c) ∧ (∀ k, ¬ (2 ≤ k ∧ k ≤ 6) → F' 37 k = Fc 37 k) ∧ (∀ c, ¬ c = d + 12 → ¬ c = d + 13 → ¬ c = d + 14 → A' c = Ac c) ∧ (∃ q', q' ≤ 6 ∧ F' (d + 11) 0 = nI q') ∧ ((pi4 K t).1 = 0 → (w.1 = 0 → ∀ b, fndN g (NM t) nc 0 = some b → (tw = true ↔ ∃ i, i < P.1 ∧ P.2.1 i = b)) ∧ SlC F' (slP K V PL w (decide (fndN g (NM t) nc 0 = none)) tw t) ∧ ((slP K V PL w (decide (fndN g (NM t) nc 0 = none)) tw t).1 = 0 → ∃ b, fndN g (NM t) nc 0 = some b ∧ CPile F' A' (d + 11) (apPut P b (piV K V t) (piG K t)) ∧ GoodP nc (apPut P b (piV K V t) (piG K t)))) := by
  have hM := hK.1
  have d37 : ¬ d = 37 := by omega
  have e37 : ¬ (37 : Nat) = d + 11 := by omega
  obtain ⟨k0, k1, k2, k3, k4, k5, k6, k7, k8, k9, k10, kp⟩ := TA_of hd
  obtain ⟨⟨m1, m2⟩, ⟨m3, m4⟩, ⟨m5, m6⟩, ⟨m7, m8⟩, i4, i3, i2, i1, i5⟩ := pi_ok hK ht
  obtain ⟨⟨l1, l2, l3⟩, l4⟩ := stp_ok hK (k := 16) (s := (0, t)) (by decide) ht (Nat.zero_le _)
  obtain ⟨F1, x1, a1, a2, a3, a4, a5⟩ := c_stp (Bc := Bc) (r := r) hK (k := 16) (s := (0, t)) ht hcp ck (by decide) (by decide)
  obtain ⟨F2, x2, b1, b2, b3, b4, b5⟩ := c_stp (Bc := Bc) (r := r) hK (k := 5) l2 a2 ck (by decide) (by decide)
  have b2' : CPo F2 PL (pi1 K t).1 (pi1 K t).2 := b2
  obtain ⟨y3, F3, c1, c2, c3, c4, c5, c6, c7, c8⟩ := c_opt (r := r) hK (k := 45) m1 b2' ck (by decide) (by decide)
  have c3' : CPo F3 PL (pi2 K t).1 (pi2 K t).2 := c3
  obtain ⟨F4, x4, f1, f2, f3, f4, f5⟩ := c_stp (Bc := Bc) (r := r) hK (k := 17) m3 c3' ck (by decide) (by decide)
  have f2' : CPo F4 PL (pi3 K t).1 (pi3 K t).2 := f2
  obtain ⟨y5, F5, g1, g2, g3, g4, g5, g6, g7, g8⟩ := c_opt (r := r) hK (k := 6) m5 f2' ck (by decide) (by decide)
  have g3' : CPo F5 PL (pi4 K t).1 (pi4 K t).2 := g3
  have a1' : fX3_take 37 16 (mkC Fc Ac Bc r) = some (x1, mkC F1 Ac Bc r) := a1
  have b1' : fX3_take 37 5 (mkC F1 Ac Bc r) = some (x2, mkC F2 Ac Bc r) := b1
  have f1' : fX3_take 37 17 (mkC F3 Ac Bc r) = some (x4, mkC F4 Ac Bc r) := f1
  have y3' : y3 < 402 := by omega
  have y5' : y5 < 402 := by omega
  have ex1 : x1 = nI t := a5 rfl
  subst ex1
  have fo : ∀ c, ¬ c = 37 → F5 c = Fc c := fun c hc => by rw [g4 c hc, f3 c hc, c4 c hc, b3 c hc, a3 c hc]
  have fk : ∀ k, ¬ k = 2 → ¬ k = 3 → ¬ k = 4 → F5 37 k = Fc 37 k := fun k q1 q2 q3 => by rw [g5 k q1 q2 q3, f4 k q1 q2 q3, c5 k q1 q2 q3, b4 k q1 q2 q3, a4 k q1 q2 q3]
  have sc5 : SlC F5 w := hw.eq fk
  have h41 : ∃ sg : Int32, fX3_tellPiled 37 (mkC Fc Ac Bc r) = fX3_tellPiled_b41 37 (nI t) sg (mkC F3 Ac Bc r) ∧ ((pi1 K t).1 = 0 → sg = if K (pi1 K t).2 = 45 then -1 else 1) := by
    by_cases c : Ac 4 y3 = nI 45
    · obtain ⟨z, hz⟩ := c7 c
      have hz' : fX3_take 37 45 (mkC F2 Ac Bc r) = some (z, mkC F3 Ac Bc r) := hz
      have c' : Ac 4 y3 = (45 : Int32) := c
      refine ⟨-1, ?_, fun q => by rw [if_pos ((c6 q).1 c)]⟩
      unfold fX3_tellPiled
      simp -implicitDefEqProofs (disch := first | assumption | omega | decide | exact And.intro (by omega) (by omega)) only [cck_0, cr0_0, cr0_1, cr0_2, cr0_3, cg0_4, cp0_4, cg0_5, cp0_5, cck_1, cg1_0, cp1_0, cr1_1, cr1_2, cr1_3, cg1_4, cp1_4, cg1_5, cp1_5, cr1_6, cr1_7, cck_2, cr2_0, cr2_1, cr2_2, cck_3, cr3_0, cr3_1, cg3_2, cp3_2, cg3_3, cp3_3, cg3_4, cp3_4, cg3_5, cp3_5, cg3_6, cp3_6, cg3_7, cp3_7, cg3_8, cp3_8, cck_4, cg4_0, cp4_0, cg4_1, cp4_1, cr4_2, cr4_3, cr4_4, cr4_5, cck_5, cg5_0, cp5_0, cr5_1, cr5_2, cr5_3, cck_6, cg6_0, cp6_0, cg6_1, cp6_1, cck_7, cg7_0, cp7_0, cg7_1, cp7_1, cr7_2, cr7_3, cr7_4, cr7_5, cr7_6, cr7_7, cr7_8, cck_8, cr8_0, cr8_1, cck_9, cr9_0, cr9_1, cr9_2, cr9_3, cg9_4, cp9_4, cck_10, cg10_0, cp10_0, cr10_1, cr10_2, cr10_3, cr10_4, cg10_5, cp10_5, cr10_6, cr10_7, cr10_8, cg10_9, cp10_9, cg10_10, cp10_10, cr10_11, cr10_12, cr10_13, cr10_14, cck_11, cr11_0, cg11_1, cp11_1, cr11_2, cr11_3, cr11_4, cr11_5, cr11_6, cr11_7, cr11_8, cr11_9, cr11_10, cr11_11, cr11_12, cr11_13, cr11_14, ca_30, cs_30, ca_31, cs_31, ca_32, cs_32, ca_33, cs_33, ca_34, cs_34, ca_35, cs_35, ca_36, cs_36, ca_37, cs_37, ca_38, cs_38, ca_39, cs_39, ca_40, cs_40, ca_41, cs_41, ca_42, cs_42, car_20, car_21, car_22, cq11_3, cq11_4, cq3_1, cq0_0, cq0_1, if_true, if_false, Option.bind_some, cb_e, lt_e, nI_1, hs_nar2, nh4, upd_at, vau_at, ca_42_0, cs_42_0, a1', b1', c2, c', hz']
    · have c' : ¬ Ac 4 y3 = (45 : Int32) := c
      have eF := c8 c
      refine ⟨1, ?_, fun q => by rw [if_neg (fun z => c ((c6 q).2 z))]⟩
      rw [eF]
      unfold fX3_tellPiled
      simp -implicitDefEqProofs (disch := first | assumption | omega | decide | exact And.intro (by omega) (by omega)) only [cck_0, cr0_0, cr0_1, cr0_2, cr0_3, cg0_4, cp0_4, cg0_5, cp0_5, cck_1, cg1_0, cp1_0, cr1_1, cr1_2, cr1_3, cg1_4, cp1_4, cg1_5, cp1_5, cr1_6, cr1_7, cck_2, cr2_0, cr2_1, cr2_2, cck_3, cr3_0, cr3_1, cg3_2, cp3_2, cg3_3, cp3_3, cg3_4, cp3_4, cg3_5, cp3_5, cg3_6, cp3_6, cg3_7, cp3_7, cg3_8, cp3_8, cck_4, cg4_0, cp4_0, cg4_1, cp4_1, cr4_2, cr4_3, cr4_4, cr4_5, cck_5, cg5_0, cp5_0, cr5_1, cr5_2, cr5_3, cck_6, cg6_0, cp6_0, cg6_1, cp6_1, cck_7, cg7_0, cp7_0, cg7_1, cp7_1, cr7_2, cr7_3, cr7_4, cr7_5, cr7_6, cr7_7, cr7_8, cck_8, cr8_0, cr8_1, cck_9, cr9_0, cr9_1, cr9_2, cr9_3, cg9_4, cp9_4, cck_10, cg10_0, cp10_0, cr10_1, cr10_2, cr10_3, cr10_4, cg10_5, cp10_5, cr10_6, cr10_7, cr10_8, cg10_9, cp10_9, cg10_10, cp10_10, cr10_11, cr10_12, cr10_13, cr10_14, cck_11, cr11_0, cg11_1, cp11_1, cr11_2, cr11_3, cr11_4, cr11_5, cr11_6, cr11_7, cr11_8, cr11_9, cr11_10, cr11_11, cr11_12, cr11_13, cr11_14, ca_30, cs_30, ca_31, cs_31, ca_32, cs_32, ca_33, cs_33, ca_34, cs_34, ca_35, cs_35, ca_36, cs_36, ca_37, cs_37, ca_38, cs_38, ca_39, cs_39, ca_40, cs_40, ca_41, cs_41, ca_42, cs_42, car_20, car_21, car_22, cq11_3, cq11_4, cq3_1, cq0_0, cq0_1, if_true, if_false, Option.bind_some, cb_e, lt_e, nI_1, hs_nar2, nh4, upd_at, vau_at, ca_42_0, cs_42_0, a1', b1', c2, if_neg c']
  obtain ⟨sg, h41, hsg⟩ := h41
  have h84 : ∃ gl : Int32, fX3_tellPiled_b41 37 (nI t) sg (mkC F3 Ac Bc r) = fX3_tellPiled_b84 37 (nI t) sg x4 gl (mkC F5 Ac Bc r) ∧ ((pi3 K t).1 = 0 → gl = piG K t) := by
    unfold piG
    by_cases c : Ac 4 y5 = nI 6
    · obtain ⟨z, hz⟩ := g7 c
      have hz' : fX3_take 37 6 (mkC F4 Ac Bc r) = some (z, mkC F5 Ac Bc r) := hz
      have c' : Ac 4 y5 = (6 : Int32) := c
      have n0 : ¬ (1 : Int32) = 0 := by decide
      refine ⟨1, ?_, fun q => by rw [if_pos ((g6 q).1 c)]⟩
      unfold fX3_tellPiled_b41 fX3_tellPiled_b70
      simp -implicitDefEqProofs (disch := first | assumption | omega | decide | exact And.intro (by omega) (by omega)) only [cck_0, cr0_0, cr0_1, cr0_2, cr0_3, cg0_4, cp0_4, cg0_5, cp0_5, cck_1, cg1_0, cp1_0, cr1_1, cr1_2, cr1_3, cg1_4, cp1_4, cg1_5, cp1_5, cr1_6, cr1_7, cck_2, cr2_0, cr2_1, cr2_2, cck_3, cr3_0, cr3_1, cg3_2, cp3_2, cg3_3, cp3_3, cg3_4, cp3_4, cg3_5, cp3_5, cg3_6, cp3_6, cg3_7, cp3_7, cg3_8, cp3_8, cck_4, cg4_0, cp4_0, cg4_1, cp4_1, cr4_2, cr4_3, cr4_4, cr4_5, cck_5, cg5_0, cp5_0, cr5_1, cr5_2, cr5_3, cck_6, cg6_0, cp6_0, cg6_1, cp6_1, cck_7, cg7_0, cp7_0, cg7_1, cp7_1, cr7_2, cr7_3, cr7_4, cr7_5, cr7_6, cr7_7, cr7_8, cck_8, cr8_0, cr8_1, cck_9, cr9_0, cr9_1, cr9_2, cr9_3, cg9_4, cp9_4, cck_10, cg10_0, cp10_0, cr10_1, cr10_2, cr10_3, cr10_4, cg10_5, cp10_5, cr10_6, cr10_7, cr10_8, cg10_9, cp10_9, cg10_10, cp10_10, cr10_11, cr10_12, cr10_13, cr10_14, cck_11, cr11_0, cg11_1, cp11_1, cr11_2, cr11_3, cr11_4, cr11_5, cr11_6, cr11_7, cr11_8, cr11_9, cr11_10, cr11_11, cr11_12, cr11_13, cr11_14, ca_30, cs_30, ca_31, cs_31, ca_32, cs_32, ca_33, cs_33, ca_34, cs_34, ca_35, cs_35, ca_36, cs_36, ca_37, cs_37, ca_38, cs_38, ca_39, cs_39, ca_40, cs_40, ca_41, cs_41, ca_42, cs_42, car_20, car_21, car_22, cq11_3, cq11_4, cq3_1, cq0_0, cq0_1, if_true, if_false, Option.bind_some, cb_e, lt_e, nI_1, hs_nar2, nh4, upd_at, vau_at, ca_42_0, cs_42_0, f1', g2, c', if_neg n0, hz']
    · have c' : ¬ Ac 4 y5 = (6 : Int32) := c
      have eF := g8 c
      refine ⟨0, ?_, fun q => by rw [if_neg (fun z => c ((g6 q).2 z))]⟩
      rw [eF]
      unfold fX3_tellPiled_b41 fX3_tellPiled_b70
      simp -implicitDefEqProofs (disch := first | assumption | omega | decide | exact And.intro (by omega) (by omega)) only [cck_0, cr0_0, cr0_1, cr0_2, cr0_3, cg0_4, cp0_4, cg0_5, cp0_5, cck_1, cg1_0, cp1_0, cr1_1, cr1_2, cr1_3, cg1_4, cp1_4, cg1_5, cp1_5, cr1_6, cr1_7, cck_2, cr2_0, cr2_1, cr2_2, cck_3, cr3_0, cr3_1, cg3_2, cp3_2, cg3_3, cp3_3, cg3_4, cp3_4, cg3_5, cp3_5, cg3_6, cp3_6, cg3_7, cp3_7, cg3_8, cp3_8, cck_4, cg4_0, cp4_0, cg4_1, cp4_1, cr4_2, cr4_3, cr4_4, cr4_5, cck_5, cg5_0, cp5_0, cr5_1, cr5_2, cr5_3, cck_6, cg6_0, cp6_0, cg6_1, cp6_1, cck_7, cg7_0, cp7_0, cg7_1, cp7_1, cr7_2, cr7_3, cr7_4, cr7_5, cr7_6, cr7_7, cr7_8, cck_8, cr8_0, cr8_1, cck_9, cr9_0, cr9_1, cr9_2, cr9_3, cg9_4, cp9_4, cck_10, cg10_0, cp10_0, cr10_1, cr10_2, cr10_3, cr10_4, cg10_5, cp10_5, cr10_6, cr10_7, cr10_8, cg10_9, cp10_9, cg10_10, cp10_10, cr10_11, cr10_12, cr10_13, cr10_14, cck_11, cr11_0, cg11_1, cp11_1, cr11_2, cr11_3, cr11_4, cr11_5, cr11_6, cr11_7, cr11_8, cr11_9, cr11_10, cr11_11, cr11_12, cr11_13, cr11_14, ca_30, cs_30, ca_31, cs_31, ca_32, cs_32, ca_33, cs_33, ca_34, cs_34, ca_35, cs_35, ca_36, cs_36, ca_37, cs_37, ca_38, cs_38, ca_39, cs_39, ca_40, cs_40, ca_41, cs_41, ca_42, cs_42, car_20, car_21, car_22, cq11_3, cq11_4, cq3_1, cq0_0, cq0_1, if_true, if_false, Option.bind_some, cb_e, lt_e, nI_1, hs_nar2, nh4, upd_at, vau_at, ca_42_0, cs_42_0, f1', g2, if_neg c']
  obtain ⟨gl, h84, hgl⟩ := h84
  rw [h41, h84]
  have f53 := g3'.1
  have q6' : F5 (d + 11) 0 = nI q := by rw [fo (d + 11) (by omega)]; exact hpq
  by_cases cz : (pi4 K t).1 = 0
  · have z3 := i4 cz
    obtain ⟨z2, z17⟩ := i3 z3
    obtain ⟨z1, _⟩ := i2 z2
    obtain ⟨z0, z16, _⟩ := i1 z1
    have f53' : F5 37 3 = 0 := by rw [f53, cz]; rfl
    have ex4 : x4 = nI (pi2 K t).2 := f5 z2
    subst ex4
    obtain ⟨v1, v2⟩ := hnm t ht z16
    have cv := ck _ m3
    have u9 := (hK.2.1 _ m3).2 z17
    obtain ⟨F6, j1, j2, j3, j4⟩ := c_knw (Bc := Bc) (r := r) (PL := PL) (j := t) (g := g) (nc := nc) hd hr sc5 (by omega) (ck t ht).2.1 v1 v2 (by rw [fo d d37]; exact h0) hnc hg
    have hrx : ∀ Fx : Nat → Nat → Int32, gR (mkC Fx Ac Bc r) 3 37 1 = some d := fun Fx => by rw [cr3_1 rfl, hr]
    have hI : ∀ Fx : Nat → Nat → Int32, fX3_intAt 37 (nI (pi2 K t).2) (mkC Fx Ac Bc r) = some (nI (V (pi2 K t).2), mkC Fx Ac Bc r) := fun Fx => c_intAt (by omega) (cv.2.2 z17) u9
    have fo6 : ∀ c, ¬ c = 37 → F6 c = Fc c := fun c hc => by rw [j3 c hc, fo c hc]
    have fk6 : ∀ k, ¬ k = 5 → ¬ k = 6 → F6 37 k = F5 37 k := j4
    cases hf : fndN g (NM t) nc 0 with
    | none =>
      rw [hf] at j1 j2
      have j1' : fX3_knownBook 37 (nI t) (mkC F5 Ac Bc r) = some (-1, mkC F6 Ac Bc r) := j1
      have w1n : ¬ (slp w (decide ((none : Option Nat) = none)) 4 (PL t)).1 = 0 := fun q => by
        have := (slp_0 (by decide) q).2
        exact absurd this (by decide)
      have e3 : slP K V PL w (decide ((none : Option Nat) = none)) false t = slp w (decide ((none : Option Nat) = none)) 4 (PL t) := by
        unfold slP
        rw [slp_f, slp_n0 w1n]
      obtain ⟨F7, o1, o2, o3, o4⟩ := c_chk2 (Ac := Ac) (PL := PL) (r := r) (lo := 0) (h := 999) (hi := 999) j2 (j := (pi2 K t).2) (by omega) cv.2.1 (cv.2.2 z17) u9 (by decide) (fun _ => ⟨rfl, by decide⟩)
      have o1' : fX3_checkInt 37 (nI (pi2 K t).2) 0 999 (mkC F6 Ac Bc r) = some ((), mkC F7 Ac Bc r) := o1
      rw [slp_n0 w1n] at o2
      have hz : ¬ F7 37 5 = 0 := by rw [o2.2.1]; exact nI_ne0 (by omega) (by have := o2.1; omega)
      refine ⟨F7, Ac, false, ?_, ?_, fun c q1 _ => by rw [o3 c q1]; exact fo6 c q1, fun k hk => by rw [o4 k (by omega) (by omega), fk6 k (by omega) (by omega), fk k (by omega) (by omega) (by omega)], fun _ _ _ _ => rfl, ⟨q, hq, by rw [o3 (d + 11) (by omega), fo6 (d + 11) (by omega)]; exact hpq⟩, fun _ => ⟨fun _ b q => (by cases q), by rw [e3]; exact o2, fun q => absurd (by rw [e3] at q; exact q) w1n⟩⟩
      · unfold fX3_tellPiled_b84 fX3_tellPiled_b127
        simp -implicitDefEqProofs (disch := first | assumption | omega | decide | exact And.intro (by omega) (by omega)) only [cck_0, cr0_0, cr0_1, cr0_2, cr0_3, cg0_4, cp0_4, cg0_5, cp0_5, cck_1, cg1_0, cp1_0, cr1_1, cr1_2, cr1_3, cg1_4, cp1_4, cg1_5, cp1_5, cr1_6, cr1_7, cck_2, cr2_0, cr2_1, cr2_2, cck_3, cr3_0, cr3_1, cg3_2, cp3_2, cg3_3, cp3_3, cg3_4, cp3_4, cg3_5, cp3_5, cg3_6, cp3_6, cg3_7, cp3_7, cg3_8, cp3_8, cck_4, cg4_0, cp4_0, cg4_1, cp4_1, cr4_2, cr4_3, cr4_4, cr4_5, cck_5, cg5_0, cp5_0, cr5_1, cr5_2, cr5_3, cck_6, cg6_0, cp6_0, cg6_1, cp6_1, cck_7, cg7_0, cp7_0, cg7_1, cp7_1, cr7_2, cr7_3, cr7_4, cr7_5, cr7_6, cr7_7, cr7_8, cck_8, cr8_0, cr8_1, cck_9, cr9_0, cr9_1, cr9_2, cr9_3, cg9_4, cp9_4, cck_10, cg10_0, cp10_0, cr10_1, cr10_2, cr10_3, cr10_4, cg10_5, cp10_5, cr10_6, cr10_7, cr10_8, cg10_9, cp10_9, cg10_10, cp10_10, cr10_11, cr10_12, cr10_13, cr10_14, cck_11, cr11_0, cg11_1, cp11_1, cr11_2, cr11_3, cr11_4, cr11_5, cr11_6, cr11_7, cr11_8, cr11_9, cr11_10, cr11_11, cr11_12, cr11_13, cr11_14, ca_30, cs_30, ca_31, cs_31, ca_32, cs_32, ca_33, cs_33, ca_34, cs_34, ca_35, cs_35, ca_36, cs_36, ca_37, cs_37, ca_38, cs_38, ca_39, cs_39, ca_40, cs_40, ca_41, cs_41, ca_42, cs_42, car_20, car_21, car_22, cq11_3, cq11_4, cq3_1, cq0_0, cq0_1, if_true, if_false, Option.bind_some, cb_e, lt_e, nI_1, hs_nar2, nh4, upd_at, vau_at, ca_42_0, cs_42_0, f53', j1', o1', if_neg hz]
      · unfold CPo at g3' ⊢
        rw [o4 2 (by decide) (by decide), o4 3 (by decide) (by decide), o4 4 (by decide) (by decide), fk6 2 (by decide) (by decide), fk6 3 (by decide) (by decide), fk6 4 (by decide) (by decide)]
        exact g3'
    | some b =>
      rw [hf] at j1 j2
      have j1' : fX3_knownBook 37 (nI t) (mkC F5 Ac Bc r) = some (nI b, mkC F6 Ac Bc r) := j1
      have ib := fndN_lt _ _ _ hf
      have b1n : ¬ nI b = (-1 : Int32) := nI_ne1 (by omega)
      have j2w : SlC F6 w := by
        rw [decide_eq_false (by intro q; cases q), slp_f] at j2
        exact j2
      obtain ⟨y, hy⟩ := c_levelA (r := r) (Ac := Ac) (Bc := Bc) (Fc := F6) (h := d + 11) (n := q) (x := nI b) kp hq (by rw [fo6 (d + 11) (by omega)]; exact hpq)
      have htw : w.1 = 0 → (decide (¬ y = -1) = true ↔ ∃ i, i < P.1 ∧ P.2.1 i = b) := fun w0 => by
        obtain ⟨cp, gp⟩ := hP w0
        have cp6 : CPile F6 Ac (d + 11) P := cp.eq (fo6 (d + 11) (by omega)) rfl rfl rfl
        have lv := c_levelOf (B := Bc) (r := r) kp cp6 gp.1 (fun i hi => by have := gp.2.1 i hi; show P.2.1 i < 6; omega) (x := (b : Int)) ⟨by omega, by omega⟩
        have ey : y = rF (-1) (lof P (b : Int) P.1 0) := by
          have : some (y, mkC F6 Ac Bc r) = some (rF (-1) (lof P (b : Int) P.1 0), mkC F6 Ac Bc r) := by rw [← hy]; exact lv
          injection this with this
          exact congrArg Prod.fst this
        rw [ey]
        cases hl : lof P (b : Int) P.1 0 with
        | none =>
          rw [decide_eq_false (fun q => q rfl)]
          refine ⟨fun q => (by cases q), fun ⟨i, hi, e⟩ => ?_⟩
          have := fal_n _ _ hl i (by omega) (by omega)
          rw [show pB P i = b from e, decide_eq_true rfl] at this
          cases this
        | some i =>
          obtain ⟨_, q2, q3⟩ := fal_b _ _ _ hl
          have i1 : ¬ rF (-1) (some i) = (-1 : Int32) := nI_ne1 (by have := gp.1; omega)
          rw [decide_eq_true i1]
          refine ⟨fun _ => ⟨i, by omega, ?_⟩, fun _ => rfl⟩
          have q4 : decide ((pB P i : Int) = (b : Int)) = true := by
            cases hd : decide ((pB P i : Int) = (b : Int)) with
            | false => rw [hd] at q3; cases q3
            | true => rfl
          have := of_decide_eq_true q4
          show pB P i = b
          omega
      have h127 : ∃ F7, fX3_tellPiled_b84 37 (nI t) sg (nI (pi2 K t).2) gl (mkC F5 Ac Bc r) = fX3_tellPiled_b127 37 sg (nI (pi2 K t).2) gl (nI b) (mkC F7 Ac Bc r) ∧ SlC F7 (slp (slp w (decide (some b = none)) 4 (PL t)) (decide (¬ y = -1)) 3 (PL t)) ∧ (∀ c, ¬ c = 37 → F7 c = F6 c) ∧ ∀ x, ¬ x = 5 → ¬ x = 6 → F7 37 x = F6 37 x := by
        by_cases cy : y = -1
        · refine ⟨F6, ?_, by rw [show decide (¬ y = -1) = false from decide_eq_false (fun q => q cy), slp_f]; exact j2, fun _ _ => rfl, fun _ _ _ => rfl⟩
          unfold fX3_tellPiled_b84
          simp -implicitDefEqProofs (disch := first | assumption | omega | decide | exact And.intro (by omega) (by omega)) only [cck_0, cr0_0, cr0_1, cr0_2, cr0_3, cg0_4, cp0_4, cg0_5, cp0_5, cck_1, cg1_0, cp1_0, cr1_1, cr1_2, cr1_3, cg1_4, cp1_4, cg1_5, cp1_5, cr1_6, cr1_7, cck_2, cr2_0, cr2_1, cr2_2, cck_3, cr3_0, cr3_1, cg3_2, cp3_2, cg3_3, cp3_3, cg3_4, cp3_4, cg3_5, cp3_5, cg3_6, cp3_6, cg3_7, cp3_7, cg3_8, cp3_8, cck_4, cg4_0, cp4_0, cg4_1, cp4_1, cr4_2, cr4_3, cr4_4, cr4_5, cck_5, cg5_0, cp5_0, cr5_1, cr5_2, cr5_3, cck_6, cg6_0, cp6_0, cg6_1, cp6_1, cck_7, cg7_0, cp7_0, cg7_1, cp7_1, cr7_2, cr7_3, cr7_4, cr7_5, cr7_6, cr7_7, cr7_8, cck_8, cr8_0, cr8_1, cck_9, cr9_0, cr9_1, cr9_2, cr9_3, cg9_4, cp9_4, cck_10, cg10_0, cp10_0, cr10_1, cr10_2, cr10_3, cr10_4, cg10_5, cp10_5, cr10_6, cr10_7, cr10_8, cg10_9, cp10_9, cg10_10, cp10_10, cr10_11, cr10_12, cr10_13, cr10_14, cck_11, cr11_0, cg11_1, cp11_1, cr11_2, cr11_3, cr11_4, cr11_5, cr11_6, cr11_7, cr11_8, cr11_9, cr11_10, cr11_11, cr11_12, cr11_13, cr11_14, ca_30, cs_30, ca_31, cs_31, ca_32, cs_32, ca_33, cs_33, ca_34, cs_34, ca_35, cs_35, ca_36, cs_36, ca_37, cs_37, ca_38, cs_38, ca_39, cs_39, ca_40, cs_40, ca_41, cs_41, ca_42, cs_42, car_20, car_21, car_22, cq11_3, cq11_4, cq3_1, cq0_0, cq0_1, if_true, if_false, Option.bind_some, cb_e, lt_e, nI_1, hs_nar2, nh4, upd_at, vau_at, ca_42_0, cs_42_0, f53', j1', if_neg b1n, hrx, hy, if_pos cy]
        · obtain ⟨F7, s1, s2, s3, s4⟩ := c_slN (A := Ac) (PL := PL) (B := Bc) (r := r) (k := 3) (j := t) j2 (by decide) (by omega) (ck t ht).2.1
          have s1' : fX3_slipAt 37 3 (nI t) (mkC F6 Ac Bc r) = some ((), mkC F7 Ac Bc r) := s1
          refine ⟨F7, ?_, by rw [show decide (¬ y = -1) = true from decide_eq_true cy]; exact s2, s3, s4⟩
          unfold fX3_tellPiled_b84
          simp -implicitDefEqProofs (disch := first | assumption | omega | decide | exact And.intro (by omega) (by omega)) only [cck_0, cr0_0, cr0_1, cr0_2, cr0_3, cg0_4, cp0_4, cg0_5, cp0_5, cck_1, cg1_0, cp1_0, cr1_1, cr1_2, cr1_3, cg1_4, cp1_4, cg1_5, cp1_5, cr1_6, cr1_7, cck_2, cr2_0, cr2_1, cr2_2, cck_3, cr3_0, cr3_1, cg3_2, cp3_2, cg3_3, cp3_3, cg3_4, cp3_4, cg3_5, cp3_5, cg3_6, cp3_6, cg3_7, cp3_7, cg3_8, cp3_8, cck_4, cg4_0, cp4_0, cg4_1, cp4_1, cr4_2, cr4_3, cr4_4, cr4_5, cck_5, cg5_0, cp5_0, cr5_1, cr5_2, cr5_3, cck_6, cg6_0, cp6_0, cg6_1, cp6_1, cck_7, cg7_0, cp7_0, cg7_1, cp7_1, cr7_2, cr7_3, cr7_4, cr7_5, cr7_6, cr7_7, cr7_8, cck_8, cr8_0, cr8_1, cck_9, cr9_0, cr9_1, cr9_2, cr9_3, cg9_4, cp9_4, cck_10, cg10_0, cp10_0, cr10_1, cr10_2, cr10_3, cr10_4, cg10_5, cp10_5, cr10_6, cr10_7, cr10_8, cg10_9, cp10_9, cg10_10, cp10_10, cr10_11, cr10_12, cr10_13, cr10_14, cck_11, cr11_0, cg11_1, cp11_1, cr11_2, cr11_3, cr11_4, cr11_5, cr11_6, cr11_7, cr11_8, cr11_9, cr11_10, cr11_11, cr11_12, cr11_13, cr11_14, ca_30, cs_30, ca_31, cs_31, ca_32, cs_32, ca_33, cs_33, ca_34, cs_34, ca_35, cs_35, ca_36, cs_36, ca_37, cs_37, ca_38, cs_38, ca_39, cs_39, ca_40, cs_40, ca_41, cs_41, ca_42, cs_42, car_20, car_21, car_22, cq11_3, cq11_4, cq3_1, cq0_0, cq0_1, if_true, if_false, Option.bind_some, cb_e, lt_e, nI_1, hs_nar2, nh4, upd_at, vau_at, ca_42_0, cs_42_0, f53', j1', if_neg b1n, hrx, hy, if_neg cy, s1']
      obtain ⟨F7, r1, r2, r3, r4⟩ := h127
      rw [r1]
      obtain ⟨F8, o1, o2, o3, o4⟩ := c_chk (Ac := Ac) (PL := PL) (r := r) (lo := 0) (hi := 999) r2 (j := (pi2 K t).2) (by omega) cv.2.1 (cv.2.2 z17) u9 (by decide) (by decide)
      have o1' : fX3_checkInt 37 (nI (pi2 K t).2) 0 999 (mkC F7 Ac Bc r) = some ((), mkC F8 Ac Bc r) := o1
      have o2' : SlC F8 (slP K V PL w (decide (some b = none)) (decide (¬ y = -1)) t) := o2
      have fo8 : ∀ c, ¬ c = 37 → F8 c = Fc c := fun c hc => by rw [o3 c hc, r3 c hc, fo6 c hc]
      have fk8 : ∀ k, ¬ k = 5 → ¬ k = 6 → F8 37 k = F5 37 k := fun k q1 q2 => by rw [o4 k q1 q2, r4 k q1 q2, fk6 k q1 q2]
      have po8 : CPo F8 PL (pi4 K t).1 (pi4 K t).2 := by
        unfold CPo at g3' ⊢
        rw [fk8 2 (by decide) (by decide), fk8 3 (by decide) (by decide), fk8 4 (by decide) (by decide)]
        exact g3'
      have f8k : ∀ k, ¬ (2 ≤ k ∧ k ≤ 6) → F8 37 k = Fc 37 k := fun k hk => by rw [fk8 k (by omega) (by omega), fk k (by omega) (by omega) (by omega)]
      have f5 := o2'.2.1
      by_cases c3 : (slP K V PL w (decide (some b = none)) (decide (¬ y = -1)) t).1 = 0
      · obtain ⟨w0, _, tw0, le⟩ := slP_0 c3
        obtain ⟨cp, gp⟩ := hP w0
        have f5' : F8 37 5 = 0 := by rw [f5, c3]; rfl
        have notin : ∀ i, i < P.1 → ¬ P.2.1 i = b := fun i hi e => by
          have := (htw w0).2 ⟨i, hi, e⟩
          rw [tw0] at this
          cases this
        have ev : sg * nI (V (pi2 K t).2) = iI (piV K V t) := by
          rw [hsg z1]
          unfold piV
          by_cases c : K (pi1 K t).2 = 45
          · rw [if_pos c, if_pos c, iI_nI, show (-1 : Int32) = iI (-1) by decide, iI_mul, Int.neg_one_mul]
          · rw [if_neg c, if_neg c, iI_nI, show (1 : Int32) = iI 1 from rfl, iI_mul, Int.one_mul]
        have bv : -999 ≤ piV K V t ∧ piV K V t ≤ 999 := by
          unfold piV
          by_cases c : K (pi1 K t).2 = 45
          · rw [if_pos c]; omega
          · rw [if_neg c]; omega
        have bg : piG K t = 0 ∨ piG K t = 1 := by
          unfold piG
          by_cases c : K (pi3 K t).2 = 6
          · rw [if_pos c]; exact Or.inr rfl
          · rw [if_neg c]; exact Or.inl rfl
        obtain ⟨n6, gp'⟩ := gp.put (p := piV K V t) (g := piG K t) hnc (by omega) notin bv bg
        obtain ⟨F9, A9, p1, p2, p3⟩ := c_put Bc r (F := F8) (A := Ac) (h := d + 11) (P := P) kp (cp.eq (fo8 (d + 11) (by omega)) rfl rfl rfl) n6 (b := b) (by omega) (piV K V t) bg
        rw [← hgl z3, ← ev] at p1
        refine ⟨F9, A9, decide (¬ y = -1), ?_, ?_, fun c q1 q2 => by rw [p3.1 c q2]; exact fo8 c q1, fun k hk => by rw [p3.1 37 e37]; exact f8k k hk, fun c q1 q2 q3 => p3.2 c q1 q2 q3, ⟨P.1 + 1, by omega, p2.1⟩, fun _ => ⟨fun w0 b' hb' => ?_, ⟨o2'.1, by rw [p3.1 37 e37]; exact o2'.2.1, fun q => by rw [p3.1 37 e37]; exact o2'.2.2.1 q, fun q => by rw [p3.1 37 e37]; exact o2'.2.2.2 q⟩, fun _ => ⟨b, rfl, p2, gp'⟩⟩⟩
        · unfold fX3_tellPiled_b127
          simp -implicitDefEqProofs (disch := first | assumption | omega | decide | exact And.intro (by omega) (by omega)) only [cck_0, cr0_0, cr0_1, cr0_2, cr0_3, cg0_4, cp0_4, cg0_5, cp0_5, cck_1, cg1_0, cp1_0, cr1_1, cr1_2, cr1_3, cg1_4, cp1_4, cg1_5, cp1_5, cr1_6, cr1_7, cck_2, cr2_0, cr2_1, cr2_2, cck_3, cr3_0, cr3_1, cg3_2, cp3_2, cg3_3, cp3_3, cg3_4, cp3_4, cg3_5, cp3_5, cg3_6, cp3_6, cg3_7, cp3_7, cg3_8, cp3_8, cck_4, cg4_0, cp4_0, cg4_1, cp4_1, cr4_2, cr4_3, cr4_4, cr4_5, cck_5, cg5_0, cp5_0, cr5_1, cr5_2, cr5_3, cck_6, cg6_0, cp6_0, cg6_1, cp6_1, cck_7, cg7_0, cp7_0, cg7_1, cp7_1, cr7_2, cr7_3, cr7_4, cr7_5, cr7_6, cr7_7, cr7_8, cck_8, cr8_0, cr8_1, cck_9, cr9_0, cr9_1, cr9_2, cr9_3, cg9_4, cp9_4, cck_10, cg10_0, cp10_0, cr10_1, cr10_2, cr10_3, cr10_4, cg10_5, cp10_5, cr10_6, cr10_7, cr10_8, cg10_9, cp10_9, cg10_10, cp10_10, cr10_11, cr10_12, cr10_13, cr10_14, cck_11, cr11_0, cg11_1, cp11_1, cr11_2, cr11_3, cr11_4, cr11_5, cr11_6, cr11_7, cr11_8, cr11_9, cr11_10, cr11_11, cr11_12, cr11_13, cr11_14, ca_30, cs_30, ca_31, cs_31, ca_32, cs_32, ca_33, cs_33, ca_34, cs_34, ca_35, cs_35, ca_36, cs_36, ca_37, cs_37, ca_38, cs_38, ca_39, cs_39, ca_40, cs_40, ca_41, cs_41, ca_42, cs_42, car_20, car_21, car_22, cq11_3, cq11_4, cq3_1, cq0_0, cq0_1, if_true, if_false, Option.bind_some, cb_e, lt_e, nI_1, hs_nar2, nh4, upd_at, vau_at, ca_42_0, cs_42_0, o1', f5', hrx, hI, p1]
        · unfold CPo at po8 ⊢
          rw [p3.1 37 e37]
          exact po8
        · injection hb' with hb'
          rw [← hb']
          exact htw w0
      · have hz : ¬ F8 37 5 = 0 := by rw [f5]; exact nI_ne0 (by omega) (by have := o2'.1; omega)
        refine ⟨F8, Ac, decide (¬ y = -1), ?_, po8, fun c q1 _ => fo8 c q1, f8k, fun _ _ _ _ => rfl, ⟨q, hq, by rw [fo8 (d + 11) (by omega)]; exact hpq⟩, fun _ => ⟨fun w0 b' hb' => ?_, o2', fun q => absurd q c3⟩⟩
        · unfold fX3_tellPiled_b127
          simp -implicitDefEqProofs (disch := first | assumption | omega | decide | exact And.intro (by omega) (by omega)) only [cck_0, cr0_0, cr0_1, cr0_2, cr0_3, cg0_4, cp0_4, cg0_5, cp0_5, cck_1, cg1_0, cp1_0, cr1_1, cr1_2, cr1_3, cg1_4, cp1_4, cg1_5, cp1_5, cr1_6, cr1_7, cck_2, cr2_0, cr2_1, cr2_2, cck_3, cr3_0, cr3_1, cg3_2, cp3_2, cg3_3, cp3_3, cg3_4, cp3_4, cg3_5, cp3_5, cg3_6, cp3_6, cg3_7, cp3_7, cg3_8, cp3_8, cck_4, cg4_0, cp4_0, cg4_1, cp4_1, cr4_2, cr4_3, cr4_4, cr4_5, cck_5, cg5_0, cp5_0, cr5_1, cr5_2, cr5_3, cck_6, cg6_0, cp6_0, cg6_1, cp6_1, cck_7, cg7_0, cp7_0, cg7_1, cp7_1, cr7_2, cr7_3, cr7_4, cr7_5, cr7_6, cr7_7, cr7_8, cck_8, cr8_0, cr8_1, cck_9, cr9_0, cr9_1, cr9_2, cr9_3, cg9_4, cp9_4, cck_10, cg10_0, cp10_0, cr10_1, cr10_2, cr10_3, cr10_4, cg10_5, cp10_5, cr10_6, cr10_7, cr10_8, cg10_9, cp10_9, cg10_10, cp10_10, cr10_11, cr10_12, cr10_13, cr10_14, cck_11, cr11_0, cg11_1, cp11_1, cr11_2, cr11_3, cr11_4, cr11_5, cr11_6, cr11_7, cr11_8, cr11_9, cr11_10, cr11_11, cr11_12, cr11_13, cr11_14, ca_30, cs_30, ca_31, cs_31, ca_32, cs_32, ca_33, cs_33, ca_34, cs_34, ca_35, cs_35, ca_36, cs_36, ca_37, cs_37, ca_38, cs_38, ca_39, cs_39, ca_40, cs_40, ca_41, cs_41, ca_42, cs_42, car_20, car_21, car_22, cq11_3, cq11_4, cq3_1, cq0_0, cq0_1, if_true, if_false, Option.bind_some, cb_e, lt_e, nI_1, hs_nar2, nh4, upd_at, vau_at, ca_42_0, cs_42_0, o1', if_neg hz]
        · injection hb' with hb'
          rw [← hb']
          exact htw w0
  · have hz : ¬ F5 37 3 = 0 := by rw [f53]; exact nI_ne0 (by omega) (by omega)
    refine ⟨F5, Ac, false, ?_, g3', fun c q1 _ => fo c q1, fun k hk => fk k (by omega) (by omega) (by omega), fun _ _ _ _ => rfl, ⟨q, hq, q6'⟩, fun q => absurd q cz⟩
    unfold fX3_tellPiled_b84
    simp -implicitDefEqProofs (disch := first | assumption | omega | decide | exact And.intro (by omega) (by omega)) only [cck_0, cr0_0, cr0_1, cr0_2, cr0_3, cg0_4, cp0_4, cg0_5, cp0_5, cck_1, cg1_0, cp1_0, cr1_1, cr1_2, cr1_3, cg1_4, cp1_4, cg1_5, cp1_5, cr1_6, cr1_7, cck_2, cr2_0, cr2_1, cr2_2, cck_3, cr3_0, cr3_1, cg3_2, cp3_2, cg3_3, cp3_3, cg3_4, cp3_4, cg3_5, cp3_5, cg3_6, cp3_6, cg3_7, cp3_7, cg3_8, cp3_8, cck_4, cg4_0, cp4_0, cg4_1, cp4_1, cr4_2, cr4_3, cr4_4, cr4_5, cck_5, cg5_0, cp5_0, cr5_1, cr5_2, cr5_3, cck_6, cg6_0, cp6_0, cg6_1, cp6_1, cck_7, cg7_0, cp7_0, cg7_1, cp7_1, cr7_2, cr7_3, cr7_4, cr7_5, cr7_6, cr7_7, cr7_8, cck_8, cr8_0, cr8_1, cck_9, cr9_0, cr9_1, cr9_2, cr9_3, cg9_4, cp9_4, cck_10, cg10_0, cp10_0, cr10_1, cr10_2, cr10_3, cr10_4, cg10_5, cp10_5, cr10_6, cr10_7, cr10_8, cg10_9, cp10_9, cg10_10, cp10_10, cr10_11, cr10_12, cr10_13, cr10_14, cck_11, cr11_0, cg11_1, cp11_1, cr11_2, cr11_3, cr11_4, cr11_5, cr11_6, cr11_7, cr11_8, cr11_9, cr11_10, cr11_11, cr11_12, cr11_13, cr11_14, ca_30, cs_30, ca_31, cs_31, ca_32, cs_32, ca_33, cs_33, ca_34, cs_34, ca_35, cs_35, ca_36, cs_36, ca_37, cs_37, ca_38, cs_38, ca_39, cs_39, ca_40, cs_40, ca_41, cs_41, ca_42, cs_42, car_20, car_21, car_22, cq11_3, cq11_4, cq3_1, cq0_0, cq0_1, if_true, if_false, Option.bind_some, cb_e, lt_e, nI_1, hs_nar2, nh4, upd_at, vau_at, ca_42_0, cs_42_0, if_neg hz]
end P96
