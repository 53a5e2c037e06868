/-! ===== fits, span: the class's looks ===== -/
def allB (s : Nat → Bool) : Nat → Bool
  | 0 => true
  | k + 1 => s k && allB s k
theorem allB_iff {s : Nat → Bool} : ∀ k, allB s k = true ↔ ∀ j, j < k → s j = true
  | 0 => ⟨fun _ j hj => absurd hj (by omega), fun _ => rfl⟩
  | k + 1 => by
    rw [allB, Bool.and_eq_true, allB_iff k]
    refine ⟨fun h j hj => ?_, fun h => ⟨h k (by omega), fun j hj => h j (by omega)⟩⟩
    by_cases e : j = k
    · rw [e]; exact h.1
    · exact h.2 j (by omega)
theorem stR_all (T : TD) (tr : Nat → Int) (P : AP) : stR T tr P = allB (stAt T tr (-1) 0 0 P) P.1 := by
  unfold stR
  rw [Bool.eq_iff_iff, fal_iff, allB_iff]
  exact ⟨fun h j hj => h j (by omega) (by omega), fun h j _ hj => h j (by omega)⟩
section CF
variable {T : TD} {P : AP} {F A : Nat → Nat → Int32} {B : Nat → Nat → Int64} {r : Nat → Nat} {k : Nat} {tr : Nat → Int} {sd : Int32}
theorem c_agrees_go (hk : c_kd k = 7 ∧ c_kd (k + 1) = 35 ∧ c_kd (k + 2) = 35 ∧ c_kd (k + 3) = 35 ∧ c_kd (k + 4) = 35 ∧ c_kd (k + 5) = 35 ∧ c_kd (k + 6) = 35 ∧ c_kd (k + 7) = 38) (hT : GoodT T) (hP : BigP (tNb T) P) (hS : Sight F A T k P sd) (ht : Tr tr) (hrow : ∀ l, l < P.1 → 0 < tr (pB P l) ∧ A 71 (pB P l) = iI (tr (pB P l))) : ∀ m fuel, m ≤ P.1 → m < fuel → fX7_agrees_b12 fuel k 71 (iI (ld T tr (-1) 0 P m)) (iI (mo T tr (-1) 0 0 P m)) (nI m + (-1)) (mkC F A B r) = some (if allB (stAt T tr (-1) 0 0 P) m then sd else (if sd = 0 then 1 else 0), mkC F A B r) := by
  obtain ⟨k0, k1, k2, k3, k4, k5, k6, k7⟩ := hk
  obtain ⟨s1, s2, s3, s4⟩ := hS
  have h6 := hP.1
  intro m
  induction m with
  | zero =>
    intro fuel h1 h2
    obtain ⟨fuel, rfl⟩ : ∃ q, fuel = q + 1 := ⟨fuel - 1, by omega⟩
    rw [fX7_agrees_b12, if_pos (by decide)]
    simp -implicitDefEqProofs (disch := first | assumption | omega | decide | exact And.intro (by omega) (by omega)) only [cck_0, cr0_0, cr0_1, cr0_2, cr0_3, cg0_4, cp0_4, cg0_5, cp0_5, cck_1, cg1_0, cp1_0, cr1_1, cr1_2, cr1_3, cg1_4, cp1_4, cg1_5, cp1_5, cr1_6, cr1_7, cck_2, cr2_0, cr2_1, cr2_2, cck_3, cr3_0, cr3_1, cg3_2, cp3_2, cg3_3, cp3_3, cg3_4, cp3_4, cg3_5, cp3_5, cg3_6, cp3_6, cg3_7, cp3_7, cg3_8, cp3_8, cck_4, cg4_0, cp4_0, cg4_1, cp4_1, cr4_2, cr4_3, cr4_4, cr4_5, cck_5, cg5_0, cp5_0, cr5_1, cr5_2, cr5_3, cck_6, cg6_0, cp6_0, cg6_1, cp6_1, cck_7, cg7_0, cp7_0, cg7_1, cp7_1, cr7_2, cr7_3, cr7_4, cr7_5, cr7_6, cr7_7, cr7_8, cck_8, cr8_0, cr8_1, cck_9, cr9_0, cr9_1, cr9_2, cr9_3, cg9_4, cp9_4, cck_10, cg10_0, cp10_0, cr10_1, cr10_2, cr10_3, cr10_4, cg10_5, cp10_5, cr10_6, cr10_7, cr10_8, cg10_9, cp10_9, cg10_10, cp10_10, cr10_11, cr10_12, cr10_13, cr10_14, cck_11, cr11_0, cg11_1, cp11_1, cr11_2, cr11_3, cr11_4, cr11_5, cr11_6, cr11_7, cr11_8, cr11_9, cr11_10, cr11_11, cr11_12, cr11_13, cr11_14, ca_30, cs_30, ca_31, cs_31, ca_32, cs_32, ca_33, cs_33, ca_34, cs_34, ca_35, cs_35, ca_36, cs_36, ca_37, cs_37, ca_38, cs_38, ca_39, cs_39, ca_40, cs_40, ca_41, cs_41, ca_42, cs_42, car_20, car_21, car_22, cq11_3, cq11_4, cq3_1, cq0_0, cq0_1, if_true, if_false, Option.bind_some, cb_e, lt_e, nI_1, hs_nar2, nh4, upd_at, vau_at, ca_42_0, cs_42_0, s1]
    unfold rZ
    rw [if_pos s2]
    rfl
  | succ m ih =>
    intro fuel h1 h2
    obtain ⟨fuel, rfl⟩ : ∃ q, fuel = q + 1 := ⟨fuel - 1, by omega⟩
    have hm : m < P.1 := by omega
    have hm6 : m < 6 := by omega
    obtain ⟨a1, a2, a3, a4, a5, a6, a7⟩ := s4 m hm
    have hb := hP.2.1 m hm
    have hb6 : pB P m < 6 := by have := hT.1; omega
    obtain ⟨t0, t1⟩ := hrow m hm
    have hwg : wg T tr P m = tr (pB P m) := by unfold wg; rw [if_pos t0]
    have e1 : iI (ld T tr (-1) 0 P (m + 1)) + (iI (tr (pB P m)) + iI (flyL T (pB P m) (tNf T))) = iI (ld T tr (-1) 0 P m) := by
      rw [iI_add, iI_add, ld_step hm]
      unfold gl
      rw [hwg, if_neg (by omega)]
      congr 1
      omega
    have e2 : iI (mo T tr (-1) 0 0 P (m + 1)) + (iI (tr (pB P m)) * iI (2 * P.2.2.1 m + tLg T (P.2.1 m)) + iI (2 * (P.2.2.1 m * flyL T (P.2.1 m) (tNf T) + flyT T (P.2.1 m) (tNf T)))) = iI (mo T tr (-1) 0 0 P m) := by
      rw [iI_mul, iI_add, iI_add, mo_step hm]
      unfold gm
      rw [hwg, if_neg (by omega)]
      congr 1
      simp only [pB, pP]
      omega
    have b1 := ld_b (mb := -1) (mw := 0) hT hP ht ⟨by decide, by decide⟩ hm
    have b3 := mo_b (mb := -1) (mw := 0) (ma := 0) hT hP ht ⟨by decide, by decide⟩ (fun q => absurd q (by decide)) hm
    obtain ⟨_, _, q3, q4⟩ := rest_b hT hP hm
    have a5' : A (k + 5) m = iI (2 * lf T P m) := a5
    have a6' : A (k + 6) m = iI (2 * rt T P m) := a6
    have p1 := mul_b (a := 2 * lf T P m) (b := ld T tr (-1) 0 P m) (M := 4600) (N := 64152) (by omega) (by omega) (by decide)
    have p2 := mul_b (a := 2 * rt T P m) (b := ld T tr (-1) 0 P m) (M := 4600) (N := 64152) (by omega) (by omega) (by decide)
    have c1 : (iI (mo T tr (-1) 0 0 P m) < iI (2 * lf T P m * ld T tr (-1) 0 P m)) ↔ ¬ lf T P m * (2 * ld T tr (-1) 0 P m) ≤ mo T tr (-1) 0 0 P m := by
      rw [iI_lt ⟨by omega, by omega⟩ ⟨by omega, by omega⟩, show lf T P m * (2 * ld T tr (-1) 0 P m) = 2 * lf T P m * ld T tr (-1) 0 P m by rw [Int.mul_left_comm, Int.mul_assoc]]
      omega
    have c2 : (iI (mo T tr (-1) 0 0 P m) ≤ iI (2 * rt T P m * ld T tr (-1) 0 P m)) ↔ mo T tr (-1) 0 0 P m ≤ rt T P m * (2 * ld T tr (-1) 0 P m) := by
      rw [iI_le ⟨by omega, by omega⟩ ⟨by omega, by omega⟩, show rt T P m * (2 * ld T tr (-1) 0 P m) = 2 * rt T P m * ld T tr (-1) 0 P m by rw [Int.mul_left_comm, Int.mul_assoc]]
    have hst : stAt T tr (-1) 0 0 P m = decide ((0 < m ∧ pG P m = 1) ∨ (lf T P m * (2 * ld T tr (-1) 0 P m) ≤ mo T tr (-1) 0 0 P m ∧ mo T tr (-1) 0 0 P m ≤ rt T P m * (2 * ld T tr (-1) 0 P m))) := rfl
    have e := ih fuel (by omega) (by omega)
    have h98 : fX7_agrees_b98 k (mkC F A B r) = some (if sd = 0 then 1 else 0, mkC F A B r) := by
      unfold fX7_agrees_b98
      simp -implicitDefEqProofs (disch := first | assumption | omega | decide | exact And.intro (by omega) (by omega)) only [cck_0, cr0_0, cr0_1, cr0_2, cr0_3, cg0_4, cp0_4, cg0_5, cp0_5, cck_1, cg1_0, cp1_0, cr1_1, cr1_2, cr1_3, cg1_4, cp1_4, cg1_5, cp1_5, cr1_6, cr1_7, cck_2, cr2_0, cr2_1, cr2_2, cck_3, cr3_0, cr3_1, cg3_2, cp3_2, cg3_3, cp3_3, cg3_4, cp3_4, cg3_5, cp3_5, cg3_6, cp3_6, cg3_7, cp3_7, cg3_8, cp3_8, cck_4, cg4_0, cp4_0, cg4_1, cp4_1, cr4_2, cr4_3, cr4_4, cr4_5, cck_5, cg5_0, cp5_0, cr5_1, cr5_2, cr5_3, cck_6, cg6_0, cp6_0, cg6_1, cp6_1, cck_7, cg7_0, cp7_0, cg7_1, cp7_1, cr7_2, cr7_3, cr7_4, cr7_5, cr7_6, cr7_7, cr7_8, cck_8, cr8_0, cr8_1, cck_9, cr9_0, cr9_1, cr9_2, cr9_3, cg9_4, cp9_4, cck_10, cg10_0, cp10_0, cr10_1, cr10_2, cr10_3, cr10_4, cg10_5, cp10_5, cr10_6, cr10_7, cr10_8, cg10_9, cp10_9, cg10_10, cp10_10, cr10_11, cr10_12, cr10_13, cr10_14, cck_11, cr11_0, cg11_1, cp11_1, cr11_2, cr11_3, cr11_4, cr11_5, cr11_6, cr11_7, cr11_8, cr11_9, cr11_10, cr11_11, cr11_12, cr11_13, cr11_14, ca_30, cs_30, ca_31, cs_31, ca_32, cs_32, ca_33, cs_33, ca_34, cs_34, ca_35, cs_35, ca_36, cs_36, ca_37, cs_37, ca_38, cs_38, ca_39, cs_39, ca_40, cs_40, ca_41, cs_41, ca_42, cs_42, car_20, car_21, car_22, cq11_3, cq11_4, cq3_1, cq0_0, cq0_1, if_true, if_false, Option.bind_some, cb_e, lt_e, nI_1, hs_nar2, nh4, upd_at, vau_at, ca_42_0, cs_42_0, s1]
      by_cases c : sd = 0
      · rw [if_pos c, if_pos c]
      · rw [if_neg c, if_neg c]
    have h111 : fX7_agrees_b111 (fX7_agrees_b12 fuel) k 71 (iI (ld T tr (-1) 0 P m)) (iI (mo T tr (-1) 0 0 P m)) (nI m) (mkC F A B r) = some (if allB (stAt T tr (-1) 0 0 P) m then sd else (if sd = 0 then 1 else 0), mkC F A B r) := e
    have a1' : A (k + 1) m = nI (pB P m) := a1
    have a3' : A (k + 3) m = iI (flyL T (pB P m) (tNf T)) := a3
    rw [pk_m1, fX7_agrees_b12, if_neg (nI_pos (by omega)), allB]
    simp -implicitDefEqProofs (disch := first | assumption | omega | decide | exact And.intro (by omega) (by omega)) only [cck_0, cr0_0, cr0_1, cr0_2, cr0_3, cg0_4, cp0_4, cg0_5, cp0_5, cck_1, cg1_0, cp1_0, cr1_1, cr1_2, cr1_3, cg1_4, cp1_4, cg1_5, cp1_5, cr1_6, cr1_7, cck_2, cr2_0, cr2_1, cr2_2, cck_3, cr3_0, cr3_1, cg3_2, cp3_2, cg3_3, cp3_3, cg3_4, cp3_4, cg3_5, cp3_5, cg3_6, cp3_6, cg3_7, cp3_7, cg3_8, cp3_8, cck_4, cg4_0, cp4_0, cg4_1, cp4_1, cr4_2, cr4_3, cr4_4, cr4_5, cck_5, cg5_0, cp5_0, cr5_1, cr5_2, cr5_3, cck_6, cg6_0, cp6_0, cg6_1, cp6_1, cck_7, cg7_0, cp7_0, cg7_1, cp7_1, cr7_2, cr7_3, cr7_4, cr7_5, cr7_6, cr7_7, cr7_8, cck_8, cr8_0, cr8_1, cck_9, cr9_0, cr9_1, cr9_2, cr9_3, cg9_4, cp9_4, cck_10, cg10_0, cp10_0, cr10_1, cr10_2, cr10_3, cr10_4, cg10_5, cp10_5, cr10_6, cr10_7, cr10_8, cg10_9, cp10_9, cg10_10, cp10_10, cr10_11, cr10_12, cr10_13, cr10_14, cck_11, cr11_0, cg11_1, cp11_1, cr11_2, cr11_3, cr11_4, cr11_5, cr11_6, cr11_7, cr11_8, cr11_9, cr11_10, cr11_11, cr11_12, cr11_13, cr11_14, ca_30, cs_30, ca_31, cs_31, ca_32, cs_32, ca_33, cs_33, ca_34, cs_34, ca_35, cs_35, ca_36, cs_36, ca_37, cs_37, ca_38, cs_38, ca_39, cs_39, ca_40, cs_40, ca_41, cs_41, ca_42, cs_42, car_20, car_21, car_22, cq11_3, cq11_4, cq3_1, cq0_0, cq0_1, if_true, if_false, Option.bind_some, cb_e, lt_e, nI_1, hs_nar2, nh4, upd_at, vau_at, ca_42_0, cs_42_0, a1', t1, a3', e1, a2, a4, e2, a7]
    have hg : ((if m = 0 then (0 : Int32) else P.2.2.2 m) = 0) ↔ ¬ (0 < m ∧ pG P m = 1) := by
      by_cases c : m = 0
      · rw [if_pos c]; exact ⟨fun _ q => by omega, fun _ => rfl⟩
      · rw [if_neg c]
        have := hP.2.2.2.2 m hm
        constructor
        · intro q1 q2
          have : pG P m = 0 := q1
          rw [q2.2] at this
          cases this
        · intro q1
          rcases this with h | h
          · exact h
          · exact absurd ⟨by omega, h⟩ q1
    by_cases cg : 0 < m ∧ pG P m = 1
    · rw [if_neg (fun q => hg.1 q cg), h111, hst, decide_eq_true (Or.inl cg), Bool.true_and]
    · rw [if_pos (hg.2 cg)]
      simp -implicitDefEqProofs (disch := first | assumption | omega | decide | exact And.intro (by omega) (by omega)) only [cck_0, cr0_0, cr0_1, cr0_2, cr0_3, cg0_4, cp0_4, cg0_5, cp0_5, cck_1, cg1_0, cp1_0, cr1_1, cr1_2, cr1_3, cg1_4, cp1_4, cg1_5, cp1_5, cr1_6, cr1_7, cck_2, cr2_0, cr2_1, cr2_2, cck_3, cr3_0, cr3_1, cg3_2, cp3_2, cg3_3, cp3_3, cg3_4, cp3_4, cg3_5, cp3_5, cg3_6, cp3_6, cg3_7, cp3_7, cg3_8, cp3_8, cck_4, cg4_0, cp4_0, cg4_1, cp4_1, cr4_2, cr4_3, cr4_4, cr4_5, cck_5, cg5_0, cp5_0, cr5_1, cr5_2, cr5_3, cck_6, cg6_0, cp6_0, cg6_1, cp6_1, cck_7, cg7_0, cp7_0, cg7_1, cp7_1, cr7_2, cr7_3, cr7_4, cr7_5, cr7_6, cr7_7, cr7_8, cck_8, cr8_0, cr8_1, cck_9, cr9_0, cr9_1, cr9_2, cr9_3, cg9_4, cp9_4, cck_10, cg10_0, cp10_0, cr10_1, cr10_2, cr10_3, cr10_4, cg10_5, cp10_5, cr10_6, cr10_7, cr10_8, cg10_9, cp10_9, cg10_10, cp10_10, cr10_11, cr10_12, cr10_13, cr10_14, cck_11, cr11_0, cg11_1, cp11_1, cr11_2, cr11_3, cr11_4, cr11_5, cr11_6, cr11_7, cr11_8, cr11_9, cr11_10, cr11_11, cr11_12, cr11_13, cr11_14, ca_30, cs_30, ca_31, cs_31, ca_32, cs_32, ca_33, cs_33, ca_34, cs_34, ca_35, cs_35, ca_36, cs_36, ca_37, cs_37, ca_38, cs_38, ca_39, cs_39, ca_40, cs_40, ca_41, cs_41, ca_42, cs_42, car_20, car_21, car_22, cq11_3, cq11_4, cq3_1, cq0_0, cq0_1, if_true, if_false, Option.bind_some, cb_e, lt_e, nI_1, hs_nar2, nh4, upd_at, vau_at, ca_42_0, cs_42_0, a5', a6', iI_mul]
      by_cases d1 : lf T P m * (2 * ld T tr (-1) 0 P m) ≤ mo T tr (-1) 0 0 P m
      · rw [if_neg (fun q => c1.1 q d1)]
        by_cases d2 : mo T tr (-1) 0 0 P m ≤ rt T P m * (2 * ld T tr (-1) 0 P m)
        · rw [if_pos (c2.2 d2), h111, hst, decide_eq_true (Or.inr ⟨d1, d2⟩), Bool.true_and]
        · rw [if_neg (fun q => d2 (c2.1 q)), h98, hst, decide_eq_false (fun q => q.elim cg (fun z => d2 z.2)), Bool.false_and]
          rfl
      · rw [if_pos (c1.2 d1), h98, hst, decide_eq_false (fun q => q.elim cg (fun z => d1 z.1)), Bool.false_and]
        rfl
theorem c_agrees (hk : c_kd k = 7 ∧ c_kd (k + 1) = 35 ∧ c_kd (k + 2) = 35 ∧ c_kd (k + 3) = 35 ∧ c_kd (k + 4) = 35 ∧ c_kd (k + 5) = 35 ∧ c_kd (k + 6) = 35 ∧ c_kd (k + 7) = 38) (hT : GoodT T) (hP : BigP (tNb T) P) (hS : Sight F A T k P sd) (ht : Tr tr) (hrow : ∀ l, l < P.1 → 0 < tr (pB P l) ∧ A 71 (pB P l) = iI (tr (pB P l))) : fX7_agrees k 71 (mkC F A B r) = some (b2 (decide (b2 (stR T tr P) = sd)), mkC F A B r) := by
  have h6 := hP.1
  have e := c_agrees_go (B := B) (r := r) hk hT hP hS ht hrow P.1 FU (Nat.le_refl _) (by unfold FU; omega)
  have z1 : ld T tr (-1) 0 P P.1 = 0 := by unfold ld; rw [Nat.sub_self]; rfl
  have z2 : mo T tr (-1) 0 0 P P.1 = 0 := by unfold mo; rw [Nat.sub_self]; rfl
  rw [z1, z2] at e
  have e' : fX7_agrees_b12 FU k 71 0 0 (nI P.1 + (-1)) (mkC F A B r) = some (if allB (stAt T tr (-1) 0 0 P) P.1 then sd else (if sd = 0 then 1 else 0), mkC F A B r) := e
  have es : nI P.1 - 1 = nI P.1 + (-1) := Int32.sub_eq_add_neg _ _
  have k0 := hk.1
  have s3 := hS.2.2.1
  unfold fX7_agrees
  simp -implicitDefEqProofs (disch := first | assumption | omega | decide | exact And.intro (by omega) (by omega)) only [cck_0, cr0_0, cr0_1, cr0_2, cr0_3, cg0_4, cp0_4, cg0_5, cp0_5, cck_1, cg1_0, cp1_0, cr1_1, cr1_2, cr1_3, cg1_4, cp1_4, cg1_5, cp1_5, cr1_6, cr1_7, cck_2, cr2_0, cr2_1, cr2_2, cck_3, cr3_0, cr3_1, cg3_2, cp3_2, cg3_3, cp3_3, cg3_4, cp3_4, cg3_5, cp3_5, cg3_6, cp3_6, cg3_7, cp3_7, cg3_8, cp3_8, cck_4, cg4_0, cp4_0, cg4_1, cp4_1, cr4_2, cr4_3, cr4_4, cr4_5, cck_5, cg5_0, cp5_0, cr5_1, cr5_2, cr5_3, cck_6, cg6_0, cp6_0, cg6_1, cp6_1, cck_7, cg7_0, cp7_0, cg7_1, cp7_1, cr7_2, cr7_3, cr7_4, cr7_5, cr7_6, cr7_7, cr7_8, cck_8, cr8_0, cr8_1, cck_9, cr9_0, cr9_1, cr9_2, cr9_3, cg9_4, cp9_4, cck_10, cg10_0, cp10_0, cr10_1, cr10_2, cr10_3, cr10_4, cg10_5, cp10_5, cr10_6, cr10_7, cr10_8, cg10_9, cp10_9, cg10_10, cp10_10, cr10_11, cr10_12, cr10_13, cr10_14, cck_11, cr11_0, cg11_1, cp11_1, cr11_2, cr11_3, cr11_4, cr11_5, cr11_6, cr11_7, cr11_8, cr11_9, cr11_10, cr11_11, cr11_12, cr11_13, cr11_14, ca_30, cs_30, ca_31, cs_31, ca_32, cs_32, ca_33, cs_33, ca_34, cs_34, ca_35, cs_35, ca_36, cs_36, ca_37, cs_37, ca_38, cs_38, ca_39, cs_39, ca_40, cs_40, ca_41, cs_41, ca_42, cs_42, car_20, car_21, car_22, cq11_3, cq11_4, cq3_1, cq0_0, cq0_1, if_true, if_false, Option.bind_some, cb_e, lt_e, nI_1, hs_nar2, nh4, upd_at, vau_at, ca_42_0, cs_42_0, s3, es, e']
  rw [← stR_all]
  have ev : (if stR T tr P = true then sd else (if sd = 0 then 1 else 0)) = b2 (decide (b2 (stR T tr P) = sd)) := by
    rcases hS.2.1 with h | h
    · rw [h]
      cases stR T tr P <;> decide
    · rw [h]
      cases stR T tr P <;> decide
  rw [ev]
end CF
section CF2
variable {T : TD} {n7 : Nat} {sp : Nat → AP} {sd : Nat → Int32} {r : Nat → Nat}
def CFit (F A : Nat → Nat → Int32) (T : TD) (n7 : Nat) (sp : Nat → AP) (sd : Nat → Int32) : Prop := GoodT T ∧ n7 ≤ 6 ∧ ∀ j, j < n7 → GoodP (tNb T) (sp j) ∧ Sight F A T (75 + 8 * j) (sp j) (sd j)
def CV (F F' A A' : Nat → Nat → Int32) : Prop := (∀ c, ¬ c = 69 → F' c = F c) ∧ F' 69 0 = F 69 0 ∧ ∀ c, c < 71 ∨ 74 < c → A' c = A c
theorem CV.rf {F A : Nat → Nat → Int32} : CV F F A A := ⟨fun _ _ => rfl, rfl, fun _ _ => rfl⟩
theorem CV.tr {F F1 F2 A A1 A2 : Nat → Nat → Int32} (h : CV F F1 A A1) (g : CV F1 F2 A1 A2) : CV F F2 A A2 := ⟨fun c hc => (g.1 c hc).trans (h.1 c hc), g.2.1.trans h.2.1, fun c hc => (g.2.2 c hc).trans (h.2.2 c hc)⟩
theorem CFit.cv {F F' A A' : Nat → Nat → Int32} (h : CFit F A T n7 sp sd) (g : CV F F' A A') : CFit F' A' T n7 sp sd := ⟨h.1, h.2.1, fun j hj => ⟨(h.2.2 j hj).1, (h.2.2 j hj).2.eq (g.1 _ (by omega)) (fun c q1 q2 => g.2.2 c (by omega))⟩⟩
theorem c_agree_go {F A : Nat → Nat → Int32} {B : Nat → Nat → Int64} {tr : Nat → Int} (ht : Tr tr) (hF : CFit F A T n7 sp sd) {K : Nat} (hK : K ≤ n7) (hrow : ∀ j, j < K → ∀ l, l < (sp j).1 → 0 < tr (pB (sp j) l) ∧ A 71 (pB (sp j) l) = iI (tr (pB (sp j) l))) : ∀ k i fuel, i + k = K → k < fuel → fX1_agree_b2 fuel 69 (nI K) (nI i) (mkC F A B r) = some (b2 (soF T sp sd tr k i), mkC F A B r) := by
  have h6 := hF.2.1
  intro k
  induction k with
  | zero =>
    intro i fuel h1 h2
    obtain ⟨fuel, rfl⟩ : ∃ q, fuel = q + 1 := ⟨fuel - 1, by omega⟩
    rw [fX1_agree_b2, if_pos (nI_le (by omega) (by omega))]
    rfl
  | succ k ih =>
    intro i fuel h1 h2
    obtain ⟨fuel, rfl⟩ : ∃ q, fuel = q + 1 := ⟨fuel - 1, by omega⟩
    have hi6 : i < 6 := by omega
    obtain ⟨g1, g2⟩ := hF.2.2 i (by omega)
    have ag := c_agrees (B := B) (r := r) (SA_of hi6) hF.1 g1.big g2 ht (hrow i (by omega))
    rw [fX1_agree_b2, if_neg (nI_ge (by omega) (by omega)), if_neg (show ¬ (6 : Int32) ≤ nI i from nI_ge (b := 6) (by omega) (by decide)), soF]
    simp -implicitDefEqProofs (disch := first | assumption | omega | decide | exact And.intro (by omega) (by omega)) only [cck_0, cr0_0, cr0_1, cr0_2, cr0_3, cg0_4, cp0_4, cg0_5, cp0_5, cck_1, cg1_0, cp1_0, cr1_1, cr1_2, cr1_3, cg1_4, cp1_4, cg1_5, cp1_5, cr1_6, cr1_7, cck_2, cr2_0, cr2_1, cr2_2, cck_3, cr3_0, cr3_1, cg3_2, cp3_2, cg3_3, cp3_3, cg3_4, cp3_4, cg3_5, cp3_5, cg3_6, cp3_6, cg3_7, cp3_7, cg3_8, cp3_8, cck_4, cg4_0, cp4_0, cg4_1, cp4_1, cr4_2, cr4_3, cr4_4, cr4_5, cck_5, cg5_0, cp5_0, cr5_1, cr5_2, cr5_3, cck_6, cg6_0, cp6_0, cg6_1, cp6_1, cck_7, cg7_0, cp7_0, cg7_1, cp7_1, cr7_2, cr7_3, cr7_4, cr7_5, cr7_6, cr7_7, cr7_8, cck_8, cr8_0, cr8_1, cck_9, cr9_0, cr9_1, cr9_2, cr9_3, cg9_4, cp9_4, cck_10, cg10_0, cp10_0, cr10_1, cr10_2, cr10_3, cr10_4, cg10_5, cp10_5, cr10_6, cr10_7, cr10_8, cg10_9, cp10_9, cg10_10, cp10_10, cr10_11, cr10_12, cr10_13, cr10_14, cck_11, cr11_0, cg11_1, cp11_1, cr11_2, cr11_3, cr11_4, cr11_5, cr11_6, cr11_7, cr11_8, cr11_9, cr11_10, cr11_11, cr11_12, cr11_13, cr11_14, ca_30, cs_30, ca_31, cs_31, ca_32, cs_32, ca_33, cs_33, ca_34, cs_34, ca_35, cs_35, ca_36, cs_36, ca_37, cs_37, ca_38, cs_38, ca_39, cs_39, ca_40, cs_40, ca_41, cs_41, ca_42, cs_42, car_20, car_21, car_22, cq11_3, cq11_4, cq3_1, cq0_0, cq0_1, if_true, if_false, Option.bind_some, cb_e, lt_e, nI_1, hs_nar2, nh4, upd_at, vau_at, ca_42_0, cs_42_0, ag]
    by_cases c : b2 (stR T tr (sp i)) = sd i
    · rw [decide_eq_true c, if_neg (show ¬ b2 true = 0 by decide), Bool.true_and]
      exact ih (i + 1) fuel (by omega) (by omega)
    · rw [decide_eq_false c, if_pos (show b2 false = 0 by decide), Bool.false_and]
      rfl
def askL (P : AP) (b : Nat) : Nat → Nat → Bool
  | 0, _ => false
  | k + 1, l => decide (pB P l = b) || askL P b k (l + 1)
def askI (sp : Nat → AP) (b : Nat) : Nat → Nat → Bool
  | 0, _ => false
  | k + 1, i => askL (sp i) b (sp i).1 0 || askI sp b k (i + 1)
theorem askL_iff {P : AP} {b : Nat} : ∀ k l, askL P b k l = true ↔ ∃ j, l ≤ j ∧ j < l + k ∧ pB P j = b
  | 0, l => ⟨fun h => (by cases h), fun ⟨j, h1, h2, _⟩ => absurd h2 (by omega)⟩
  | k + 1, l => by
    rw [askL, Bool.or_eq_true, decide_eq_true_iff, askL_iff k (l + 1)]
    constructor
    · rintro (h | ⟨j, h1, h2, h3⟩)
      · exact ⟨l, by omega, by omega, h⟩
      · exact ⟨j, by omega, by omega, h3⟩
    · rintro ⟨j, h1, h2, h3⟩
      by_cases e : j = l
      · rw [e] at h3; exact Or.inl h3
      · exact Or.inr ⟨j, by omega, by omega, h3⟩
theorem askI_iff {b : Nat} : ∀ k i, askI sp b k i = true ↔ ∃ j l, i ≤ j ∧ j < i + k ∧ l < (sp j).1 ∧ pB (sp j) l = b
  | 0, i => ⟨fun h => (by cases h), fun ⟨j, l, h1, h2, _⟩ => absurd h2 (by omega)⟩
  | k + 1, i => by
    rw [askI, Bool.or_eq_true, askL_iff, askI_iff k (i + 1)]
    constructor
    · rintro (⟨l, h1, h2, h3⟩ | ⟨j, l, h1, h2, h3⟩)
      · exact ⟨i, l, by omega, by omega, by omega, h3⟩
      · exact ⟨j, l, by omega, by omega, h3⟩
    · rintro ⟨j, l, h1, h2, h3, h4⟩
      by_cases e : j = i
      · rw [e] at h3 h4; exact Or.inl ⟨l, by omega, by omega, h4⟩
      · exact Or.inr ⟨j, l, by omega, by omega, h3, h4⟩
theorem c_isAsked {F A : Nat → Nat → Int32} {B : Nat → Nat → Int64} (hF : CFit F A T n7 sp sd) {K : Nat} (hK : K ≤ n7) {b : Nat} (hb : b < 6) : fX1_isAsked 69 (nI b) (nI K) (mkC F A B r) = some (b2 (askI sp b K 0), mkC F A B r) := by
  have h6 := hF.2.1
  have nb6 := hF.1.1
  have inner : ∀ (KK : Nat → Int32 → Int32 → Int32 → Sto → Option (Int32 × Sto)) (v : Bool) (i : Nat), i < n7 → KK 69 (nI b) (nI K) (nI (i + 1)) (mkC F A B r) = some (b2 v, mkC F A B r) → ∀ k l fuel, l + k = (sp i).1 → k < fuel → fX1_isAsked_b16 KK fuel 69 (nI b) (nI K) (nI i) (nI l) (mkC F A B r) = some (b2 (askL (sp i) b k l || v), mkC F A B r) := by
    intro KK v i hi hv k
    have hi6 : i < 6 := by omega
    obtain ⟨k0, k1, k2, k3, k4, k5, k6, k7⟩ := SA_of hi6
    obtain ⟨g1, s1, s2, s3, s4⟩ := hF.2.2 i hi
    have p6 := g1.1
    induction k with
    | zero =>
      intro l fuel h1 h2
      obtain ⟨fuel, rfl⟩ : ∃ q, fuel = q + 1 := ⟨fuel - 1, by omega⟩
      rw [fX1_isAsked_b16]
      simp -implicitDefEqProofs (disch := first | assumption | omega | decide | exact And.intro (by omega) (by omega)) only [cck_0, cr0_0, cr0_1, cr0_2, cr0_3, cg0_4, cp0_4, cg0_5, cp0_5, cck_1, cg1_0, cp1_0, cr1_1, cr1_2, cr1_3, cg1_4, cp1_4, cg1_5, cp1_5, cr1_6, cr1_7, cck_2, cr2_0, cr2_1, cr2_2, cck_3, cr3_0, cr3_1, cg3_2, cp3_2, cg3_3, cp3_3, cg3_4, cp3_4, cg3_5, cp3_5, cg3_6, cp3_6, cg3_7, cp3_7, cg3_8, cp3_8, cck_4, cg4_0, cp4_0, cg4_1, cp4_1, cr4_2, cr4_3, cr4_4, cr4_5, cck_5, cg5_0, cp5_0, cr5_1, cr5_2, cr5_3, cck_6, cg6_0, cp6_0, cg6_1, cp6_1, cck_7, cg7_0, cp7_0, cg7_1, cp7_1, cr7_2, cr7_3, cr7_4, cr7_5, cr7_6, cr7_7, cr7_8, cck_8, cr8_0, cr8_1, cck_9, cr9_0, cr9_1, cr9_2, cr9_3, cg9_4, cp9_4, cck_10, cg10_0, cp10_0, cr10_1, cr10_2, cr10_3, cr10_4, cg10_5, cp10_5, cr10_6, cr10_7, cr10_8, cg10_9, cp10_9, cg10_10, cp10_10, cr10_11, cr10_12, cr10_13, cr10_14, cck_11, cr11_0, cg11_1, cp11_1, cr11_2, cr11_3, cr11_4, cr11_5, cr11_6, cr11_7, cr11_8, cr11_9, cr11_10, cr11_11, cr11_12, cr11_13, cr11_14, ca_30, cs_30, ca_31, cs_31, ca_32, cs_32, ca_33, cs_33, ca_34, cs_34, ca_35, cs_35, ca_36, cs_36, ca_37, cs_37, ca_38, cs_38, ca_39, cs_39, ca_40, cs_40, ca_41, cs_41, ca_42, cs_42, car_20, car_21, car_22, cq11_3, cq11_4, cq3_1, cq0_0, cq0_1, if_true, if_false, Option.bind_some, cb_e, lt_e, nI_1, hs_nar2, nh4, upd_at, vau_at, ca_42_0, cs_42_0, s3]
      rw [if_pos (nI_le (by omega) (by omega))]
      unfold fX1_isAsked_b54
      rw [nI_1, hv, askL, Bool.false_or]
    | succ k ih =>
      intro l fuel h1 h2
      obtain ⟨fuel, rfl⟩ : ∃ q, fuel = q + 1 := ⟨fuel - 1, by omega⟩
      have hl6 : l < 6 := by omega
      have a1 := (s4 l (by omega)).1
      have hbl := g1.2.1 l (by omega)
      rw [fX1_isAsked_b16]
      simp -implicitDefEqProofs (disch := first | assumption | omega | decide | exact And.intro (by omega) (by omega)) only [cck_0, cr0_0, cr0_1, cr0_2, cr0_3, cg0_4, cp0_4, cg0_5, cp0_5, cck_1, cg1_0, cp1_0, cr1_1, cr1_2, cr1_3, cg1_4, cp1_4, cg1_5, cp1_5, cr1_6, cr1_7, cck_2, cr2_0, cr2_1, cr2_2, cck_3, cr3_0, cr3_1, cg3_2, cp3_2, cg3_3, cp3_3, cg3_4, cp3_4, cg3_5, cp3_5, cg3_6, cp3_6, cg3_7, cp3_7, cg3_8, cp3_8, cck_4, cg4_0, cp4_0, cg4_1, cp4_1, cr4_2, cr4_3, cr4_4, cr4_5, cck_5, cg5_0, cp5_0, cr5_1, cr5_2, cr5_3, cck_6, cg6_0, cp6_0, cg6_1, cp6_1, cck_7, cg7_0, cp7_0, cg7_1, cp7_1, cr7_2, cr7_3, cr7_4, cr7_5, cr7_6, cr7_7, cr7_8, cck_8, cr8_0, cr8_1, cck_9, cr9_0, cr9_1, cr9_2, cr9_3, cg9_4, cp9_4, cck_10, cg10_0, cp10_0, cr10_1, cr10_2, cr10_3, cr10_4, cg10_5, cp10_5, cr10_6, cr10_7, cr10_8, cg10_9, cp10_9, cg10_10, cp10_10, cr10_11, cr10_12, cr10_13, cr10_14, cck_11, cr11_0, cg11_1, cp11_1, cr11_2, cr11_3, cr11_4, cr11_5, cr11_6, cr11_7, cr11_8, cr11_9, cr11_10, cr11_11, cr11_12, cr11_13, cr11_14, ca_30, cs_30, ca_31, cs_31, ca_32, cs_32, ca_33, cs_33, ca_34, cs_34, ca_35, cs_35, ca_36, cs_36, ca_37, cs_37, ca_38, cs_38, ca_39, cs_39, ca_40, cs_40, ca_41, cs_41, ca_42, cs_42, car_20, car_21, car_22, cq11_3, cq11_4, cq3_1, cq0_0, cq0_1, if_true, if_false, Option.bind_some, cb_e, lt_e, nI_1, hs_nar2, nh4, upd_at, vau_at, ca_42_0, cs_42_0, s3]
      rw [if_neg (nI_ge (by omega) (by omega))]
      simp -implicitDefEqProofs (disch := first | assumption | omega | decide | exact And.intro (by omega) (by omega)) only [cck_0, cr0_0, cr0_1, cr0_2, cr0_3, cg0_4, cp0_4, cg0_5, cp0_5, cck_1, cg1_0, cp1_0, cr1_1, cr1_2, cr1_3, cg1_4, cp1_4, cg1_5, cp1_5, cr1_6, cr1_7, cck_2, cr2_0, cr2_1, cr2_2, cck_3, cr3_0, cr3_1, cg3_2, cp3_2, cg3_3, cp3_3, cg3_4, cp3_4, cg3_5, cp3_5, cg3_6, cp3_6, cg3_7, cp3_7, cg3_8, cp3_8, cck_4, cg4_0, cp4_0, cg4_1, cp4_1, cr4_2, cr4_3, cr4_4, cr4_5, cck_5, cg5_0, cp5_0, cr5_1, cr5_2, cr5_3, cck_6, cg6_0, cp6_0, cg6_1, cp6_1, cck_7, cg7_0, cp7_0, cg7_1, cp7_1, cr7_2, cr7_3, cr7_4, cr7_5, cr7_6, cr7_7, cr7_8, cck_8, cr8_0, cr8_1, cck_9, cr9_0, cr9_1, cr9_2, cr9_3, cg9_4, cp9_4, cck_10, cg10_0, cp10_0, cr10_1, cr10_2, cr10_3, cr10_4, cg10_5, cp10_5, cr10_6, cr10_7, cr10_8, cg10_9, cp10_9, cg10_10, cp10_10, cr10_11, cr10_12, cr10_13, cr10_14, cck_11, cr11_0, cg11_1, cp11_1, cr11_2, cr11_3, cr11_4, cr11_5, cr11_6, cr11_7, cr11_8, cr11_9, cr11_10, cr11_11, cr11_12, cr11_13, cr11_14, ca_30, cs_30, ca_31, cs_31, ca_32, cs_32, ca_33, cs_33, ca_34, cs_34, ca_35, cs_35, ca_36, cs_36, ca_37, cs_37, ca_38, cs_38, ca_39, cs_39, ca_40, cs_40, ca_41, cs_41, ca_42, cs_42, car_20, car_21, car_22, cq11_3, cq11_4, cq3_1, cq0_0, cq0_1, if_true, if_false, Option.bind_some, cb_e, lt_e, nI_1, hs_nar2, nh4, upd_at, vau_at, ca_42_0, cs_42_0, a1]
      rw [askL]
      have e := nI_eq (a := (sp i).2.1 l) (b := b) (by omega) (by omega)
      by_cases c : pB (sp i) l = b
      · rw [if_pos (e.2 c), decide_eq_true c, Bool.true_or, Bool.true_or]
        rfl
      · rw [if_neg (fun q => c (e.1 q)), decide_eq_false c, Bool.false_or]
        exact ih (l + 1) fuel (by omega) (by omega)
  have outer : ∀ k i fuel, i + k = K → k < fuel → fX1_isAsked_b2 fuel 69 (nI b) (nI K) (nI i) (mkC F A B r) = some (b2 (askI sp b k i), mkC F A B r) := by
    intro k
    induction k with
    | zero =>
      intro i fuel h1 h2
      obtain ⟨fuel, rfl⟩ : ∃ q, fuel = q + 1 := ⟨fuel - 1, by omega⟩
      rw [fX1_isAsked_b2, if_pos (nI_le (by omega) (by omega))]
      rfl
    | succ k ih =>
      intro i fuel h1 h2
      obtain ⟨fuel, rfl⟩ : ∃ q, fuel = q + 1 := ⟨fuel - 1, by omega⟩
      have p6 := (hF.2.2 i (by omega)).1.1
      rw [fX1_isAsked_b2, if_neg (nI_ge (by omega) (by omega)), if_neg (show ¬ (6 : Int32) ≤ nI i from nI_ge (b := 6) (by omega) (by decide)), askI]
      exact inner (fX1_isAsked_b2 fuel) (askI sp b k (i + 1)) i (by omega) (ih (i + 1) fuel (by omega) (by omega)) (sp i).1 0 FU (by omega) (by unfold FU; omega)
  unfold fX1_isAsked
  simp -implicitDefEqProofs (disch := first | assumption | omega | decide | exact And.intro (by omega) (by omega)) only [cck_0, cr0_0, cr0_1, cr0_2, cr0_3, cg0_4, cp0_4, cg0_5, cp0_5, cck_1, cg1_0, cp1_0, cr1_1, cr1_2, cr1_3, cg1_4, cp1_4, cg1_5, cp1_5, cr1_6, cr1_7, cck_2, cr2_0, cr2_1, cr2_2, cck_3, cr3_0, cr3_1, cg3_2, cp3_2, cg3_3, cp3_3, cg3_4, cp3_4, cg3_5, cp3_5, cg3_6, cp3_6, cg3_7, cp3_7, cg3_8, cp3_8, cck_4, cg4_0, cp4_0, cg4_1, cp4_1, cr4_2, cr4_3, cr4_4, cr4_5, cck_5, cg5_0, cp5_0, cr5_1, cr5_2, cr5_3, cck_6, cg6_0, cp6_0, cg6_1, cp6_1, cck_7, cg7_0, cp7_0, cg7_1, cp7_1, cr7_2, cr7_3, cr7_4, cr7_5, cr7_6, cr7_7, cr7_8, cck_8, cr8_0, cr8_1, cck_9, cr9_0, cr9_1, cr9_2, cr9_3, cg9_4, cp9_4, cck_10, cg10_0, cp10_0, cr10_1, cr10_2, cr10_3, cr10_4, cg10_5, cp10_5, cr10_6, cr10_7, cr10_8, cg10_9, cp10_9, cg10_10, cp10_10, cr10_11, cr10_12, cr10_13, cr10_14, cck_11, cr11_0, cg11_1, cp11_1, cr11_2, cr11_3, cr11_4, cr11_5, cr11_6, cr11_7, cr11_8, cr11_9, cr11_10, cr11_11, cr11_12, cr11_13, cr11_14, ca_30, cs_30, ca_31, cs_31, ca_32, cs_32, ca_33, cs_33, ca_34, cs_34, ca_35, cs_35, ca_36, cs_36, ca_37, cs_37, ca_38, cs_38, ca_39, cs_39, ca_40, cs_40, ca_41, cs_41, ca_42, cs_42, car_20, car_21, car_22, cq11_3, cq11_4, cq3_1, cq0_0, cq0_1, if_true, if_false, Option.bind_some, cb_e, lt_e, nI_1, hs_nar2, nh4, upd_at, vau_at, ca_42_0, cs_42_0]
  exact outer K 0 FU (by omega) (by unfold FU; omega)
end CF2
