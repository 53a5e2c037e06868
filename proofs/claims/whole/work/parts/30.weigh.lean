/-! ===== the class: loads, what stands ===== -/
abbrev ld0 (T : TD) (P : AP) : Nat → Int := ld T tr0 (-1) 0 P
abbrev mo0 (T : TD) (P : AP) : Nat → Int := mo T tr0 (-1) 0 0 P
abbrev st0 (T : TD) (P : AP) : Nat → Bool := stAt T tr0 (-1) 0 0 P
def CLd (A : Nat → Nat → Int32) (T : TD) (P : AP) : Prop := ∀ j, j < P.1 → A 47 j = iI (ld0 T P j) ∧ A 48 j = iI (mo0 T P j)
theorem ld_step {T : TD} {tr : Nat → Int} {mb mw : Int} {P : AP} {k : Nat} (hk : k < P.1) : ld T tr mb mw P k = ld T tr mb mw P (k + 1) + gl T tr mb mw P k := by
  unfold ld
  rw [show P.1 - k = (P.1 - (k + 1)) + 1 by omega, sumD, show P.1 - (P.1 - (k + 1) + 1) = k by omega]
theorem mo_step {T : TD} {tr : Nat → Int} {mb mw ma : Int} {P : AP} {k : Nat} (hk : k < P.1) : mo T tr mb mw ma P k = mo T tr mb mw ma P (k + 1) + gm T tr mb mw ma P k := by
  unfold mo
  rw [show P.1 - k = (P.1 - (k + 1)) + 1 by omega, sumD, show P.1 - (P.1 - (k + 1) + 1) = k by omega]
theorem c_weigh_b {t : Nat} {T : TD} {h : Nat} {P : AP} {F : Nat → Nat → Int32} {B : Nat → Nat → Int64} {r : Nat → Nat} (r3 : r 3 = t) (r4 : r 4 = h) : ∀ k fuel, k ≤ P.1 → k < fuel → ∀ {A : Nat → Nat → Int32}, CRow F A t T h P →
    (∀ j, k ≤ j → j < P.1 → A 47 j = iI (ld0 T P j) ∧ A 48 j = iI (mo0 T P j)) →
    ∃ A', fX0_weigh_b26 fuel 46 (iI (ld0 T P k)) (iI (mo0 T P k)) (iI ((k : Int) - 1)) (mkC F A B r) = some ((), mkC F A' B r) ∧ CS t A A' r r ∧ CLd A' T P := by
  intro k
  induction k with
  | zero =>
    intro fuel hk hf A hR hB
    obtain ⟨fuel, rfl⟩ : ∃ q, fuel = q + 1 := ⟨fuel - 1, by omega⟩
    rw [fX0_weigh_b26, if_pos (by rw [iI_lt0 ⟨by omega, by omega⟩]; omega)]
    exact ⟨_, rfl, CS.rf, fun j hj => hB j (by omega) hj⟩
  | succ k ih =>
    intro fuel hk hf A hR hB
    obtain ⟨fuel, rfl⟩ : ∃ q, fuel = q + 1 := ⟨fuel - 1, by omega⟩
    have hk6 := hR.2.2.2.2.1
    have hkP : k < P.1 := by omega
    rw [fX0_weigh_b26, if_neg (by rw [iI_lt0 ⟨by omega, by omega⟩]; omega)]
    have ek : iI (((k + 1 : Nat) : Int) - 1) = nI k := by rw [iI_nI]; congr 1; omega
    rw [ek]
    obtain ⟨A1, w1, w0⟩ := c_weighs B r hR (i := k) hkP
    have w2 : CS t A A1 r r := ⟨fun c _ _ q3 => w0 c q3, fun _ _ _ => rfl⟩
    have hR1 := hR.cs w2
    obtain ⟨a1, a2, a3, a4, a5, a6, a7, a8, a9, a10, a11, a12, a13⟩ := hR1.at (i := k) hkP
    obtain ⟨k0, k1, k2, k3, k4, k5, k6, k7, k8, k9, k10, k11⟩ := TA_of hR.1
    obtain ⟨p0, p1, p2, p3⟩ := PA_of hR.2.1
    have ek2 : nI k + (-1 : Int32) = iI ((k : Int) - 1) := by
      rw [iI_nI, m1_iI, iI_add]
      rfl
    simp (disch := first | assumption | omega | decide | exact And.intro (by omega) (by omega)) only [cck_0, cr0_0, cr0_1, cr0_2, cr0_3, cg0_4, cp0_4, cg0_5, cp0_5, cck_1, cg1_0, cp1_0, cr1_1, cr1_2, cr1_3, cg1_4, cp1_4, cg1_5, cp1_5, cr1_6, cr1_7, cck_2, cr2_0, cr2_1, cr2_2, cck_3, cr3_0, cr3_1, cg3_2, cp3_2, cg3_3, cp3_3, cg3_4, cp3_4, cg3_5, cp3_5, cg3_6, cp3_6, cg3_7, cp3_7, cg3_8, cp3_8, cck_4, cg4_0, cp4_0, cg4_1, cp4_1, cr4_2, cr4_3, cr4_4, cr4_5, cck_5, cg5_0, cp5_0, cr5_1, cr5_2, cr5_3, cck_6, cg6_0, cp6_0, cg6_1, cp6_1, cck_7, cg7_0, cp7_0, cg7_1, cp7_1, cr7_2, cr7_3, cr7_4, cr7_5, cr7_6, cr7_7, cr7_8, cck_8, cr8_0, cr8_1, cck_9, cr9_0, cr9_1, cr9_2, cr9_3, cg9_4, cp9_4, cck_10, cg10_0, cp10_0, cr10_1, cr10_2, cr10_3, cr10_4, cg10_5, cp10_5, cr10_6, cr10_7, cr10_8, cg10_9, cp10_9, cg10_10, cp10_10, cr10_11, cr10_12, cr10_13, cr10_14, cck_11, cr11_0, cg11_1, cp11_1, cr11_2, cr11_3, cr11_4, cr11_5, cr11_6, cr11_7, cr11_8, cr11_9, cr11_10, cr11_11, cr11_12, cr11_13, cr11_14, ca_30, cs_30, ca_31, cs_31, ca_32, cs_32, ca_33, cs_33, ca_34, cs_34, ca_35, cs_35, ca_36, cs_36, ca_37, cs_37, ca_38, cs_38, ca_39, cs_39, ca_40, cs_40, ca_41, cs_41, ca_42, cs_42, car_20, car_21, car_22, cq11_3, cq11_4, cq3_1, cq0_0, cq0_1, if_true, if_false, Option.bind_some, cb, lt, nI_1, hs_nar2, nh4, upd_at, vau_at, ca_42_0, cs_42_0, r3, r4, w1, a5, a12, c_twiceMiddle hR1 hkP, c_twiceFlyTurn hR1 hkP, iI_add, iI_mul, ek2]
    have s1 : ld0 T P (k + 1) + (wg T tr0 P k + flyL T (pB P k) (tNf T)) = ld0 T P k := by
      rw [ld0, ld_step hkP, gl, if_neg (by omega)]
      omega
    have s2 : mo0 T P (k + 1) + (wg T tr0 P k * (2 * pP P k + tLg T (pB P k)) + 2 * (pP P k * flyL T (pB P k) (tNf T) + flyT T (pB P k) (tNf T))) = mo0 T P k := by
      rw [mo0, mo_step hkP, gm, if_neg (by omega)]
      omega
    rw [s1, s2]
    generalize hA2 : va_up (va_up A1 47 (upd (A1 47) k (iI (ld0 T P k)))) 48 (upd (va_up A1 47 (upd (A1 47) k (iI (ld0 T P k))) 48) k (iI (mo0 T P k))) = A2
    have g2 : CS t A1 A2 r r := ⟨fun c q1 q2 q3 => by rw [← hA2, vau_ne q2, vau_ne q1], fun _ _ _ => rfl⟩
    obtain ⟨A3, r1, r2, r5⟩ := ih fuel (by omega) (by omega) (hR1.cs g2) (by
      intro j q1 q2
      rw [← hA2, vau_ne (show ¬ 47 = 48 by decide), vau_at, vau_at, vau_ne (show ¬ 48 = 47 by decide)]
      by_cases c2 : j = k
      · subst c2
        rw [upd_at, upd_at]
        exact ⟨rfl, rfl⟩
      · rw [upd_ne c2, upd_ne c2, w0 47 (by rcases hR.1 with h | h <;> omega), w0 48 (by rcases hR.1 with h | h <;> omega)]
        exact hB j (by omega) q2)
    exact ⟨A3, r1, (w2.tr g2).tr r2, r5⟩
theorem c_weigh {t : Nat} {T : TD} {h : Nat} {P : AP} {F A : Nat → Nat → Int32} (B : Nat → Nat → Int64) (r : Nat → Nat) (hR : CRow F A t T h P) : ∃ A' r', fX0_weigh 46 t h (mkC F A B r) = some ((), mkC F A' B r') ∧ CS t A A' r r' ∧ CLd A' T P ∧ r' 3 = t ∧ r' 4 = h := by
  obtain ⟨p0, p1, p2, p3⟩ := PA_of hR.2.1
  have hs := hR.2.2.2.1.1
  have h6 := hR.2.2.2.2.1
  unfold fX0_weigh
  simp (disch := first | assumption | omega | decide | exact And.intro (by omega) (by omega)) only [cck_0, cr0_0, cr0_1, cr0_2, cr0_3, cg0_4, cp0_4, cg0_5, cp0_5, cck_1, cg1_0, cp1_0, cr1_1, cr1_2, cr1_3, cg1_4, cp1_4, cg1_5, cp1_5, cr1_6, cr1_7, cck_2, cr2_0, cr2_1, cr2_2, cck_3, cr3_0, cr3_1, cg3_2, cp3_2, cg3_3, cp3_3, cg3_4, cp3_4, cg3_5, cp3_5, cg3_6, cp3_6, cg3_7, cp3_7, cg3_8, cp3_8, cck_4, cg4_0, cp4_0, cg4_1, cp4_1, cr4_2, cr4_3, cr4_4, cr4_5, cck_5, cg5_0, cp5_0, cr5_1, cr5_2, cr5_3, cck_6, cg6_0, cp6_0, cg6_1, cp6_1, cck_7, cg7_0, cp7_0, cg7_1, cp7_1, cr7_2, cr7_3, cr7_4, cr7_5, cr7_6, cr7_7, cr7_8, cck_8, cr8_0, cr8_1, cck_9, cr9_0, cr9_1, cr9_2, cr9_3, cg9_4, cp9_4, cck_10, cg10_0, cp10_0, cr10_1, cr10_2, cr10_3, cr10_4, cg10_5, cp10_5, cr10_6, cr10_7, cr10_8, cg10_9, cp10_9, cg10_10, cp10_10, cr10_11, cr10_12, cr10_13, cr10_14, cck_11, cr11_0, cg11_1, cp11_1, cr11_2, cr11_3, cr11_4, cr11_5, cr11_6, cr11_7, cr11_8, cr11_9, cr11_10, cr11_11, cr11_12, cr11_13, cr11_14, ca_30, cs_30, ca_31, cs_31, ca_32, cs_32, ca_33, cs_33, ca_34, cs_34, ca_35, cs_35, ca_36, cs_36, ca_37, cs_37, ca_38, cs_38, ca_39, cs_39, ca_40, cs_40, ca_41, cs_41, ca_42, cs_42, car_20, car_21, car_22, cq11_3, cq11_4, cq3_1, cq0_0, cq0_1, if_true, if_false, Option.bind_some, cb, lt, nI_1, hs_nar2, nh4, upd_at, vau_at, ca_42_0, cs_42_0, hs]
  have r3 : va_up (va_up r 3 t) 4 h 3 = t := rfl
  have r4 : va_up (va_up r 3 t) 4 h 4 = h := rfl
  obtain ⟨A', e1, e2, e3⟩ := c_weigh_b (T := T) (P := P) (F := F) (B := B) r3 r4 P.1 FU (Nat.le_refl _) (by unfold FU; omega) hR (fun j q1 q2 => by omega)
  have l0 : ld0 T P P.1 = 0 := by unfold ld0 ld; rw [Nat.sub_self]; rfl
  have m0 : mo0 T P P.1 = 0 := by unfold mo0 mo; rw [Nat.sub_self]; rfl
  have e0 : nI P.1 - 1 = iI ((P.1 : Int) - 1) := iI_sub (P.1 : Int) 1
  rw [l0, m0] at e1
  rw [e0]
  refine ⟨A', va_up (va_up r 3 t) 4 h, e1, ⟨e2.1, fun k q1 q2 => by rw [vau_ne q2, vau_ne q1]⟩, e3, r3, r4⟩
theorem c_levelStands {t : Nat} {T : TD} {h : Nat} {P : AP} {F A : Nat → Nat → Int32} {B : Nat → Nat → Int64} {r : Nat → Nat} (hR : CRow F A t T h P) (hL : CLd A T P) (r3 : r 3 = t) (r4 : r 4 = h) {i : Nat} (hi : i < P.1) : fX0_levelStands 46 (nI i) (mkC F A B r) = some (b2 (st0 T P i), mkC F A B r) := by
  obtain ⟨a1, a2, a3, a4, a5, a6, a7, a8, a9, a10, a11, a12, a13⟩ := hR.at hi
  have hr := rest_b hR.2.2.1.1 hR.2.2.2.2 hi
  have hl := ld_b (mb := -1) (mw := 0) hR.2.2.1.1 hR.2.2.2.2 Tr0 ⟨by decide, by decide⟩ hi
  have hm := mo_b (mb := -1) (mw := 0) (ma := 0) hR.2.2.1.1 hR.2.2.2.2 Tr0 ⟨by decide, by decide⟩ (fun q => absurd q (by decide)) hi
  have p1 := mul_b (a := lf T P i) (b := 2 * ld T tr0 (-1) 0 P i) (M := 2298) (N := 128304) (by omega) (by omega) (by omega)
  have p2 := mul_b (a := rt T P i) (b := 2 * ld T tr0 (-1) 0 P i) (M := 2298) (N := 128304) (by omega) (by omega) (by omega)
  have e1 : A 47 i = iI (ld T tr0 (-1) 0 P i) := (hL i hi).1
  have e2 : A 48 i = iI (mo T tr0 (-1) 0 0 P i) := (hL i hi).2
  unfold fX0_levelStands
  simp (disch := first | assumption | omega | decide | exact And.intro (by omega) (by omega)) only [cck_0, cr0_0, cr0_1, cr0_2, cr0_3, cg0_4, cp0_4, cg0_5, cp0_5, cck_1, cg1_0, cp1_0, cr1_1, cr1_2, cr1_3, cg1_4, cp1_4, cg1_5, cp1_5, cr1_6, cr1_7, cck_2, cr2_0, cr2_1, cr2_2, cck_3, cr3_0, cr3_1, cg3_2, cp3_2, cg3_3, cp3_3, cg3_4, cp3_4, cg3_5, cp3_5, cg3_6, cp3_6, cg3_7, cp3_7, cg3_8, cp3_8, cck_4, cg4_0, cp4_0, cg4_1, cp4_1, cr4_2, cr4_3, cr4_4, cr4_5, cck_5, cg5_0, cp5_0, cr5_1, cr5_2, cr5_3, cck_6, cg6_0, cp6_0, cg6_1, cp6_1, cck_7, cg7_0, cp7_0, cg7_1, cp7_1, cr7_2, cr7_3, cr7_4, cr7_5, cr7_6, cr7_7, cr7_8, cck_8, cr8_0, cr8_1, cck_9, cr9_0, cr9_1, cr9_2, cr9_3, cg9_4, cp9_4, cck_10, cg10_0, cp10_0, cr10_1, cr10_2, cr10_3, cr10_4, cg10_5, cp10_5, cr10_6, cr10_7, cr10_8, cg10_9, cp10_9, cg10_10, cp10_10, cr10_11, cr10_12, cr10_13, cr10_14, cck_11, cr11_0, cg11_1, cp11_1, cr11_2, cr11_3, cr11_4, cr11_5, cr11_6, cr11_7, cr11_8, cr11_9, cr11_10, cr11_11, cr11_12, cr11_13, cr11_14, ca_30, cs_30, ca_31, cs_31, ca_32, cs_32, ca_33, cs_33, ca_34, cs_34, ca_35, cs_35, ca_36, cs_36, ca_37, cs_37, ca_38, cs_38, ca_39, cs_39, ca_40, cs_40, ca_41, cs_41, ca_42, cs_42, car_20, car_21, car_22, cq11_3, cq11_4, cq3_1, cq0_0, cq0_1, if_true, if_false, Option.bind_some, cb, lt, nI_1, hs_nar2, nh4, upd_at, vau_at, ca_42_0, cs_42_0, r3, r4, c_glue hR hi]
  by_cases c : 0 < i ∧ pG P i = 1
  · rw [decide_eq_true c]
    have : st0 T P i = true := decide_eq_true (Or.inl c)
    rw [this]
    rfl
  · rw [decide_eq_false c, if_pos (show b2 false = 0 from rfl)]
    simp (disch := first | assumption | omega | decide | exact And.intro (by omega) (by omega)) only [cck_0, cr0_0, cr0_1, cr0_2, cr0_3, cg0_4, cp0_4, cg0_5, cp0_5, cck_1, cg1_0, cp1_0, cr1_1, cr1_2, cr1_3, cg1_4, cp1_4, cg1_5, cp1_5, cr1_6, cr1_7, cck_2, cr2_0, cr2_1, cr2_2, cck_3, cr3_0, cr3_1, cg3_2, cp3_2, cg3_3, cp3_3, cg3_4, cp3_4, cg3_5, cp3_5, cg3_6, cp3_6, cg3_7, cp3_7, cg3_8, cp3_8, cck_4, cg4_0, cp4_0, cg4_1, cp4_1, cr4_2, cr4_3, cr4_4, cr4_5, cck_5, cg5_0, cp5_0, cr5_1, cr5_2, cr5_3, cck_6, cg6_0, cp6_0, cg6_1, cp6_1, cck_7, cg7_0, cp7_0, cg7_1, cp7_1, cr7_2, cr7_3, cr7_4, cr7_5, cr7_6, cr7_7, cr7_8, cck_8, cr8_0, cr8_1, cck_9, cr9_0, cr9_1, cr9_2, cr9_3, cg9_4, cp9_4, cck_10, cg10_0, cp10_0, cr10_1, cr10_2, cr10_3, cr10_4, cg10_5, cp10_5, cr10_6, cr10_7, cr10_8, cg10_9, cp10_9, cg10_10, cp10_10, cr10_11, cr10_12, cr10_13, cr10_14, cck_11, cr11_0, cg11_1, cp11_1, cr11_2, cr11_3, cr11_4, cr11_5, cr11_6, cr11_7, cr11_8, cr11_9, cr11_10, cr11_11, cr11_12, cr11_13, cr11_14, ca_30, cs_30, ca_31, cs_31, ca_32, cs_32, ca_33, cs_33, ca_34, cs_34, ca_35, cs_35, ca_36, cs_36, ca_37, cs_37, ca_38, cs_38, ca_39, cs_39, ca_40, cs_40, ca_41, cs_41, ca_42, cs_42, car_20, car_21, car_22, cq11_3, cq11_4, cq3_1, cq0_0, cq0_1, if_true, if_false, Option.bind_some, cb, lt, nI_1, hs_nar2, nh4, upd_at, vau_at, ca_42_0, cs_42_0, r3, r4, e1, e2, c_restLeft hR hi, c_restRight hR hi, two_iI, iI_mul, iI_lt]
    have hsub : (0 < i ∧ pG P i = 1 ∨ lf T P i * (2 * ld T tr0 (-1) 0 P i) ≤ mo T tr0 (-1) 0 0 P i ∧ mo T tr0 (-1) 0 0 P i ≤ rt T P i * (2 * ld T tr0 (-1) 0 P i)) ↔ (lf T P i * (2 * ld T tr0 (-1) 0 P i) ≤ mo T tr0 (-1) 0 0 P i ∧ mo T tr0 (-1) 0 0 P i ≤ rt T P i * (2 * ld T tr0 (-1) 0 P i)) := ⟨fun q => q.elim (fun z => absurd z c) id, Or.inr⟩
    simp only [stAt, stB, hsub, ld0, mo0, b2]
    by_cases c2 : mo T tr0 (-1) 0 0 P i < lf T P i * (2 * ld T tr0 (-1) 0 P i)
    · rw [if_pos c2, if_neg]
      intro q
      have q1 := of_decide_eq_true q
      omega
    · rw [if_neg c2]
      by_cases c3 : rt T P i * (2 * ld T tr0 (-1) 0 P i) < mo T tr0 (-1) 0 0 P i
      · rw [if_pos c3, if_neg]
        intro q
        have q1 := of_decide_eq_true q
        omega
      · rw [if_neg c3, if_pos]
        exact decide_eq_true ⟨by omega, by omega⟩
theorem c_lowest {t : Nat} {T : TD} {h : Nat} {P : AP} {F A : Nat → Nat → Int32} {B : Nat → Nat → Int64} {r : Nat → Nat} (hR : CRow F A t T h P) (hL : CLd A T P) (r3 : r 3 = t) (r4 : r 4 = h) : ∀ k i fuel, i + k = P.1 → k < fuel → fX0_lowestFalling_b2 fuel 46 (nI i) (mkC F A B r) = some (rF (-1) (fal (st0 T P) k i), mkC F A B r) := by
  obtain ⟨p0, p1, p2, p3⟩ := PA_of hR.2.1
  have hs := hR.2.2.2.1.1
  have h6 := hR.2.2.2.2.1
  intro k
  induction k with
  | zero =>
    intro i fuel h1 h2
    obtain ⟨fuel, rfl⟩ : ∃ q, fuel = q + 1 := ⟨fuel - 1, by omega⟩
    rw [fX0_lowestFalling_b2]
    simp (disch := first | assumption | omega | decide | exact And.intro (by omega) (by omega)) only [cck_0, cr0_0, cr0_1, cr0_2, cr0_3, cg0_4, cp0_4, cg0_5, cp0_5, cck_1, cg1_0, cp1_0, cr1_1, cr1_2, cr1_3, cg1_4, cp1_4, cg1_5, cp1_5, cr1_6, cr1_7, cck_2, cr2_0, cr2_1, cr2_2, cck_3, cr3_0, cr3_1, cg3_2, cp3_2, cg3_3, cp3_3, cg3_4, cp3_4, cg3_5, cp3_5, cg3_6, cp3_6, cg3_7, cp3_7, cg3_8, cp3_8, cck_4, cg4_0, cp4_0, cg4_1, cp4_1, cr4_2, cr4_3, cr4_4, cr4_5, cck_5, cg5_0, cp5_0, cr5_1, cr5_2, cr5_3, cck_6, cg6_0, cp6_0, cg6_1, cp6_1, cck_7, cg7_0, cp7_0, cg7_1, cp7_1, cr7_2, cr7_3, cr7_4, cr7_5, cr7_6, cr7_7, cr7_8, cck_8, cr8_0, cr8_1, cck_9, cr9_0, cr9_1, cr9_2, cr9_3, cg9_4, cp9_4, cck_10, cg10_0, cp10_0, cr10_1, cr10_2, cr10_3, cr10_4, cg10_5, cp10_5, cr10_6, cr10_7, cr10_8, cg10_9, cp10_9, cg10_10, cp10_10, cr10_11, cr10_12, cr10_13, cr10_14, cck_11, cr11_0, cg11_1, cp11_1, cr11_2, cr11_3, cr11_4, cr11_5, cr11_6, cr11_7, cr11_8, cr11_9, cr11_10, cr11_11, cr11_12, cr11_13, cr11_14, ca_30, cs_30, ca_31, cs_31, ca_32, cs_32, ca_33, cs_33, ca_34, cs_34, ca_35, cs_35, ca_36, cs_36, ca_37, cs_37, ca_38, cs_38, ca_39, cs_39, ca_40, cs_40, ca_41, cs_41, ca_42, cs_42, car_20, car_21, car_22, cq11_3, cq11_4, cq3_1, cq0_0, cq0_1, if_true, if_false, Option.bind_some, cb, lt, nI_1, hs_nar2, nh4, upd_at, vau_at, ca_42_0, cs_42_0, r4, hs]
    rw [if_pos (nI_le (by omega) (by omega))]
    rfl
  | succ k ih =>
    intro i fuel h1 h2
    obtain ⟨fuel, rfl⟩ : ∃ q, fuel = q + 1 := ⟨fuel - 1, by omega⟩
    rw [fX0_lowestFalling_b2]
    simp (disch := first | assumption | omega | decide | exact And.intro (by omega) (by omega)) only [cck_0, cr0_0, cr0_1, cr0_2, cr0_3, cg0_4, cp0_4, cg0_5, cp0_5, cck_1, cg1_0, cp1_0, cr1_1, cr1_2, cr1_3, cg1_4, cp1_4, cg1_5, cp1_5, cr1_6, cr1_7, cck_2, cr2_0, cr2_1, cr2_2, cck_3, cr3_0, cr3_1, cg3_2, cp3_2, cg3_3, cp3_3, cg3_4, cp3_4, cg3_5, cp3_5, cg3_6, cp3_6, cg3_7, cp3_7, cg3_8, cp3_8, cck_4, cg4_0, cp4_0, cg4_1, cp4_1, cr4_2, cr4_3, cr4_4, cr4_5, cck_5, cg5_0, cp5_0, cr5_1, cr5_2, cr5_3, cck_6, cg6_0, cp6_0, cg6_1, cp6_1, cck_7, cg7_0, cp7_0, cg7_1, cp7_1, cr7_2, cr7_3, cr7_4, cr7_5, cr7_6, cr7_7, cr7_8, cck_8, cr8_0, cr8_1, cck_9, cr9_0, cr9_1, cr9_2, cr9_3, cg9_4, cp9_4, cck_10, cg10_0, cp10_0, cr10_1, cr10_2, cr10_3, cr10_4, cg10_5, cp10_5, cr10_6, cr10_7, cr10_8, cg10_9, cp10_9, cg10_10, cp10_10, cr10_11, cr10_12, cr10_13, cr10_14, cck_11, cr11_0, cg11_1, cp11_1, cr11_2, cr11_3, cr11_4, cr11_5, cr11_6, cr11_7, cr11_8, cr11_9, cr11_10, cr11_11, cr11_12, cr11_13, cr11_14, ca_30, cs_30, ca_31, cs_31, ca_32, cs_32, ca_33, cs_33, ca_34, cs_34, ca_35, cs_35, ca_36, cs_36, ca_37, cs_37, ca_38, cs_38, ca_39, cs_39, ca_40, cs_40, ca_41, cs_41, ca_42, cs_42, car_20, car_21, car_22, cq11_3, cq11_4, cq3_1, cq0_0, cq0_1, if_true, if_false, Option.bind_some, cb, lt, nI_1, hs_nar2, nh4, upd_at, vau_at, ca_42_0, cs_42_0, r4, hs]
    rw [if_neg (nI_ge (by omega) (by omega)), c_levelStands hR hL r3 r4 (by omega)]
    simp (disch := first | assumption | omega | decide | exact And.intro (by omega) (by omega)) only [cck_0, cr0_0, cr0_1, cr0_2, cr0_3, cg0_4, cp0_4, cg0_5, cp0_5, cck_1, cg1_0, cp1_0, cr1_1, cr1_2, cr1_3, cg1_4, cp1_4, cg1_5, cp1_5, cr1_6, cr1_7, cck_2, cr2_0, cr2_1, cr2_2, cck_3, cr3_0, cr3_1, cg3_2, cp3_2, cg3_3, cp3_3, cg3_4, cp3_4, cg3_5, cp3_5, cg3_6, cp3_6, cg3_7, cp3_7, cg3_8, cp3_8, cck_4, cg4_0, cp4_0, cg4_1, cp4_1, cr4_2, cr4_3, cr4_4, cr4_5, cck_5, cg5_0, cp5_0, cr5_1, cr5_2, cr5_3, cck_6, cg6_0, cp6_0, cg6_1, cp6_1, cck_7, cg7_0, cp7_0, cg7_1, cp7_1, cr7_2, cr7_3, cr7_4, cr7_5, cr7_6, cr7_7, cr7_8, cck_8, cr8_0, cr8_1, cck_9, cr9_0, cr9_1, cr9_2, cr9_3, cg9_4, cp9_4, cck_10, cg10_0, cp10_0, cr10_1, cr10_2, cr10_3, cr10_4, cg10_5, cp10_5, cr10_6, cr10_7, cr10_8, cg10_9, cp10_9, cg10_10, cp10_10, cr10_11, cr10_12, cr10_13, cr10_14, cck_11, cr11_0, cg11_1, cp11_1, cr11_2, cr11_3, cr11_4, cr11_5, cr11_6, cr11_7, cr11_8, cr11_9, cr11_10, cr11_11, cr11_12, cr11_13, cr11_14, ca_30, cs_30, ca_31, cs_31, ca_32, cs_32, ca_33, cs_33, ca_34, cs_34, ca_35, cs_35, ca_36, cs_36, ca_37, cs_37, ca_38, cs_38, ca_39, cs_39, ca_40, cs_40, ca_41, cs_41, ca_42, cs_42, car_20, car_21, car_22, cq11_3, cq11_4, cq3_1, cq0_0, cq0_1, if_true, if_false, Option.bind_some, cb, lt, nI_1, hs_nar2, nh4, upd_at, vau_at, ca_42_0, cs_42_0, fal]
    cases hq : st0 T P i with
    | false => rfl
    | true => exact ih (i + 1) fuel (by omega) (by omega)
theorem c_lowestFalling {t : Nat} {T : TD} {h : Nat} {P : AP} {F A : Nat → Nat → Int32} {B : Nat → Nat → Int64} {r : Nat → Nat} (hR : CRow F A t T h P) (hL : CLd A T P) (r3 : r 3 = t) (r4 : r 4 = h) : fX0_lowestFalling 46 (mkC F A B r) = some (rF (-1) (fal (st0 T P) P.1 0), mkC F A B r) := by
  unfold fX0_lowestFalling
  have h6 := hR.2.2.2.2.1
  rw [cck_0 rfl]
  exact c_lowest hR hL r3 r4 P.1 0 FU (by omega) (by unfold FU; omega)
def stAll (T : TD) (P : AP) : Bool := (fal (st0 T P) P.1 0).isNone
theorem c_allStand {t : Nat} {T : TD} {h : Nat} {P : AP} {F A : Nat → Nat → Int32} (B : Nat → Nat → Int64) (r : Nat → Nat) (hR : CRow F A t T h P) : ∃ A' r', fX0_allStand 46 t h (mkC F A B r) = some (b2 (stAll T P), mkC F A' B r') ∧ CS t A A' r r' := by
  obtain ⟨A', r', h1, h2, h3, h4, h5⟩ := c_weigh B r hR
  refine ⟨A', r', ?_, h2⟩
  unfold fX0_allStand
  simp (disch := first | assumption | omega | decide | exact And.intro (by omega) (by omega)) only [cck_0, cr0_0, cr0_1, cr0_2, cr0_3, cg0_4, cp0_4, cg0_5, cp0_5, cck_1, cg1_0, cp1_0, cr1_1, cr1_2, cr1_3, cg1_4, cp1_4, cg1_5, cp1_5, cr1_6, cr1_7, cck_2, cr2_0, cr2_1, cr2_2, cck_3, cr3_0, cr3_1, cg3_2, cp3_2, cg3_3, cp3_3, cg3_4, cp3_4, cg3_5, cp3_5, cg3_6, cp3_6, cg3_7, cp3_7, cg3_8, cp3_8, cck_4, cg4_0, cp4_0, cg4_1, cp4_1, cr4_2, cr4_3, cr4_4, cr4_5, cck_5, cg5_0, cp5_0, cr5_1, cr5_2, cr5_3, cck_6, cg6_0, cp6_0, cg6_1, cp6_1, cck_7, cg7_0, cp7_0, cg7_1, cp7_1, cr7_2, cr7_3, cr7_4, cr7_5, cr7_6, cr7_7, cr7_8, cck_8, cr8_0, cr8_1, cck_9, cr9_0, cr9_1, cr9_2, cr9_3, cg9_4, cp9_4, cck_10, cg10_0, cp10_0, cr10_1, cr10_2, cr10_3, cr10_4, cg10_5, cp10_5, cr10_6, cr10_7, cr10_8, cg10_9, cp10_9, cg10_10, cp10_10, cr10_11, cr10_12, cr10_13, cr10_14, cck_11, cr11_0, cg11_1, cp11_1, cr11_2, cr11_3, cr11_4, cr11_5, cr11_6, cr11_7, cr11_8, cr11_9, cr11_10, cr11_11, cr11_12, cr11_13, cr11_14, ca_30, cs_30, ca_31, cs_31, ca_32, cs_32, ca_33, cs_33, ca_34, cs_34, ca_35, cs_35, ca_36, cs_36, ca_37, cs_37, ca_38, cs_38, ca_39, cs_39, ca_40, cs_40, ca_41, cs_41, ca_42, cs_42, car_20, car_21, car_22, cq11_3, cq11_4, cq3_1, cq0_0, cq0_1, if_true, if_false, Option.bind_some, cb, lt, nI_1, hs_nar2, nh4, upd_at, vau_at, ca_42_0, cs_42_0, h1, c_lowestFalling (hR.cs h2) h3 h4 h5]
  have hn : ∀ s k i j, fal s k i = some j → j < i + k := by
    intro s k
    induction k with
    | zero => intro i j h; cases h
    | succ k ih =>
      intro i j h
      unfold fal at h
      split at h
      · have := ih _ _ h; omega
      · cases h; omega
  unfold stAll
  have h6 := hR.2.2.2.2.1
  cases hq : fal (st0 T P) P.1 0 with
  | none => rfl
  | some j =>
    have := hn _ _ _ _ hq
    have e : ¬ rF (-1) (some j) = -1 := nI_ne1 (by omega)
    rw [if_neg e]
    rfl
