/-! ===== the class weighs a pile ===== -/
def CS (t : Nat) (A A' : Nat → Nat → Int32) (r r' : Nat → Nat) : Prop := (∀ c, ¬ c = 47 → ¬ c = 48 → ¬ c = t + 7 → A' c = A c) ∧ ∀ k, ¬ k = 3 → ¬ k = 4 → r' k = r k
theorem CS.rf {t : Nat} {A : Nat → Nat → Int32} {r : Nat → Nat} : CS t A A r r := ⟨fun _ _ _ _ => rfl, fun _ _ _ => rfl⟩
theorem CS.tr {t : Nat} {A A1 A2 : Nat → Nat → Int32} {r r1 r2 : Nat → Nat} (h : CS t A A1 r r1) (g : CS t A1 A2 r1 r2) : CS t A A2 r r2 :=
  ⟨fun c h1 h2 h3 => (g.1 c h1 h2 h3).trans (h.1 c h1 h2 h3), fun k h1 h2 => (g.2 k h1 h2).trans (h.2 k h1 h2)⟩
theorem CS.eq {t : Nat} {F A A' : Nat → Nat → Int32} {B : Nat → Nat → Int64} {r r' : Nat → Nat} (h : CS t A A' r r') (ht : t = 7 ∨ t = 22) : CEq t F F A A' B B r r' :=
  ⟨⟨rfl, rfl, fun _ _ => rfl⟩, fun c hc => h.1 c (by unfold KA at hc; omega) (by unfold KA at hc; omega) (by unfold KA at hc; omega), rfl, h.2 0 (by decide) (by decide), h.2 1 (by decide) (by decide)⟩
theorem TA_of {t : Nat} (h : t = 7 ∨ t = 22) : TA t := by
  rcases h with rfl | rfl <;> exact ⟨rfl, rfl, rfl, rfl, rfl, rfl, rfl, rfl, rfl, rfl, rfl, rfl, rfl, rfl, rfl⟩
theorem PA_of {h : Nat} (q : h = 38 ∨ h = 42) : PA h := by
  rcases q with rfl | rfl <;> exact ⟨rfl, rfl, rfl, rfl⟩
def CRow (F A : Nat → Nat → Int32) (t : Nat) (T : TD) (h : Nat) (P : AP) : Prop := (t = 7 ∨ t = 22) ∧ (h = 38 ∨ h = 42) ∧ (GoodT T ∧ CText F A t T) ∧ CPile F A h P ∧ BigP (tNb T) P
theorem CRow.cs {F A A' : Nat → Nat → Int32} {r r' : Nat → Nat} {t : Nat} {T : TD} {h : Nat} {P : AP} (q : CRow F A t T h P) (g : CS t A A' r r') : CRow F A' t T h P := by
  obtain ⟨h1, h2, ⟨h3, h4⟩, h5, h6⟩ := q
  exact ⟨h1, h2, ⟨h3, h4.eq rfl (fun c q1 q2 q3 => g.1 c (by omega) (by omega) q3)⟩, h5.eq rfl (g.1 _ (by omega) (by omega) (by omega)) (g.1 _ (by omega) (by omega) (by omega)) (g.1 _ (by omega) (by omega) (by omega)), h6⟩
theorem CRow.at {F A : Nat → Nat → Int32} {t : Nat} {T : TD} {h : Nat} {P : AP} (q : CRow F A t T h P) {i : Nat} (hi : i < P.1) : i < 6 ∧ P.1 ≤ 6 ∧ pB P i < tNb T ∧ pB P i < 6 ∧ A (h + 1) i = nI (pB P i) ∧ A (h + 2) i = iI (pP P i) ∧ A (h + 3) i = pG P i ∧ (-2199 ≤ pP P i ∧ pP P i ≤ 2199) ∧ A (t + 2) (pB P i) = iI (tLg T (pB P i)) ∧ A (t + 3) (pB P i) = iI (tWt T (pB P i)) ∧ (1 ≤ tLg T (pB P i) ∧ tLg T (pB P i) ≤ 99) ∧ A (t + 9) (pB P i) = iI (flyL T (pB P i) (tNf T)) ∧ A (t + 10) (pB P i) = iI (flyT T (pB P i) (tNf T)) := by
  obtain ⟨h1, h2, ⟨h3, h4⟩, h5, h6⟩ := q
  have e1 := h5.2 i hi
  have e2 := h6.2.1 i hi
  have e3 := h6.2.2.2.1 i hi
  have e4 := h4.2.1 _ e2
  have e5 := h3.1
  have e6 := h6.1
  have e7 := h3.2.1 _ e2
  have e8 := h4.2.2.2.2.2.1 _ e2
  exact ⟨by omega, e6, e2, by omega, e1.1, e1.2.1, e1.2.2, e3, e4.1, e4.2, ⟨by omega, by omega⟩, e8.1, e8.2⟩
abbrev tr0 : Nat → Int := fun _ => 0
theorem Tr0 : Tr tr0 := fun _ => ⟨Int.le_refl 0, (by decide : (0 : Int) ≤ 6)⟩
theorem cr10_14' {F A : Nat → Nat → Int32} {B : Nat → Nat → Int64} {r : Nat → Nat} {t : Nat} (h : t = 7 ∨ t = 22) : gR (mkC F A B r) 10 t 14 = some (t + 11) := by
  rcases h with rfl | rfl
  · exact cr10_14 rfl
  · exact cr10_14 rfl
theorem c_min {a b : Int} (ha : in32 a) (hb : in32 b) (σ : Sto) : fJ9_min_7cf53 (iI a) (iI b) σ = some (iI (min a b), σ) := by
  unfold fJ9_min_7cf53
  by_cases h : b < a
  · rw [if_pos ((iI_lt hb ha).2 h), show min a b = b by omega]
  · rw [if_neg (fun q => h ((iI_lt hb ha).1 q)), show min a b = a by omega]
theorem c_max {a b : Int} (ha : in32 a) (hb : in32 b) (σ : Sto) : fJ9_max_7cf53 (iI a) (iI b) σ = some (iI (max a b), σ) := by
  unfold fJ9_max_7cf53
  by_cases h : a < b
  · rw [if_pos ((iI_lt ha hb).2 h), show max a b = b by omega]
  · rw [if_neg (fun q => h ((iI_lt ha hb).1 q)), show max a b = a by omega]
theorem nI_ne1 {n : Nat} (h : n < 2 ^ 31) : ¬ nI n = (-1 : Int32) := by
  rw [m1_iI, iI_nI, iI_eq ⟨by omega, by omega⟩ ⟨by omega, by omega⟩]
  omega
theorem c_weighs {F A : Nat → Nat → Int32} (B : Nat → Nat → Int64) (r : Nat → Nat) {t : Nat} {T : TD} {h : Nat} {P : AP} (q : CRow F A t T h P) {i : Nat} (hi : i < P.1) : ∃ A', fX10_weighs t h (nI i) (mkC F A B r) = some (iI (wg T tr0 P i), mkC F A' B r) ∧ ∀ c, ¬ c = t + 7 → A' c = A c := by
  obtain ⟨a1, a2, a3, a4, a5, a6, a7, a8, a9, a10, a11, a12, a13⟩ := q.at hi
  obtain ⟨h1, h2, ⟨h3, h4⟩, h5, h6⟩ := q
  obtain ⟨k0, k1, k2, k3, k4, k5, k6, k7, k8, k9, k10, k11⟩ := TA_of h1
  obtain ⟨p0, p1, p2, p3⟩ := PA_of h2
  have e10 := h4.2.2.2.2.2.2 _ a3
  unfold fX10_weighs wg
  rw [if_neg (Int.lt_irrefl 0)]
  simp (disch := first | assumption | omega | decide | exact And.intro (by omega) (by omega)) only [cck_0, cr0_0, cr0_1, cr0_2, cr0_3, cg0_4, cp0_4, cg0_5, cp0_5, cck_1, cg1_0, cp1_0, cr1_1, cr1_2, cr1_3, cg1_4, cp1_4, cg1_5, cp1_5, cr1_6, cr1_7, cck_2, cr2_0, cr2_1, cr2_2, cck_3, cr3_0, cr3_1, cg3_2, cp3_2, cg3_3, cp3_3, cg3_4, cp3_4, cg3_5, cp3_5, cg3_6, cp3_6, cg3_7, cp3_7, cg3_8, cp3_8, cck_4, cg4_0, cp4_0, cg4_1, cp4_1, cr4_2, cr4_3, cr4_4, cr4_5, cck_5, cg5_0, cp5_0, cr5_1, cr5_2, cr5_3, cck_6, cg6_0, cp6_0, cg6_1, cp6_1, cck_7, cg7_0, cp7_0, cg7_1, cp7_1, cr7_2, cr7_3, cr7_4, cr7_5, cr7_6, cr7_7, cr7_8, cck_8, cr8_0, cr8_1, cck_9, cr9_0, cr9_1, cr9_2, cr9_3, cg9_4, cp9_4, cck_10, cg10_0, cp10_0, cr10_1, cr10_2, cr10_3, cr10_4, cg10_5, cp10_5, cr10_6, cr10_7, cr10_8, cg10_9, cp10_9, cg10_10, cp10_10, cr10_11, cr10_12, cr10_13, cr10_14, cck_11, cr11_0, cg11_1, cp11_1, cr11_2, cr11_3, cr11_4, cr11_5, cr11_6, cr11_7, cr11_8, cr11_9, cr11_10, cr11_11, cr11_12, cr11_13, cr11_14, ca_30, cs_30, ca_31, cs_31, ca_32, cs_32, ca_33, cs_33, ca_34, cs_34, ca_35, cs_35, ca_36, cs_36, ca_37, cs_37, ca_38, cs_38, ca_39, cs_39, ca_40, cs_40, ca_41, cs_41, ca_42, cs_42, car_20, car_21, car_22, cq11_3, cq11_4, cq3_1, cq0_0, cq0_1, if_true, if_false, Option.bind_some, cb, lt, nI_1, hs_nar2, nh4, upd_at, vau_at, ca_42_0, cs_42_0, a5]
  cases hq : tLw T (pB P i) with
  | none =>
    rw [hq] at e10
    rw [if_pos e10]
    simp (disch := first | assumption | omega | decide | exact And.intro (by omega) (by omega)) only [cck_0, cr0_0, cr0_1, cr0_2, cr0_3, cg0_4, cp0_4, cg0_5, cp0_5, cck_1, cg1_0, cp1_0, cr1_1, cr1_2, cr1_3, cg1_4, cp1_4, cg1_5, cp1_5, cr1_6, cr1_7, cck_2, cr2_0, cr2_1, cr2_2, cck_3, cr3_0, cr3_1, cg3_2, cp3_2, cg3_3, cp3_3, cg3_4, cp3_4, cg3_5, cp3_5, cg3_6, cp3_6, cg3_7, cp3_7, cg3_8, cp3_8, cck_4, cg4_0, cp4_0, cg4_1, cp4_1, cr4_2, cr4_3, cr4_4, cr4_5, cck_5, cg5_0, cp5_0, cr5_1, cr5_2, cr5_3, cck_6, cg6_0, cp6_0, cg6_1, cp6_1, cck_7, cg7_0, cp7_0, cg7_1, cp7_1, cr7_2, cr7_3, cr7_4, cr7_5, cr7_6, cr7_7, cr7_8, cck_8, cr8_0, cr8_1, cck_9, cr9_0, cr9_1, cr9_2, cr9_3, cg9_4, cp9_4, cck_10, cg10_0, cp10_0, cr10_1, cr10_2, cr10_3, cr10_4, cg10_5, cp10_5, cr10_6, cr10_7, cr10_8, cg10_9, cp10_9, cg10_10, cp10_10, cr10_11, cr10_12, cr10_13, cr10_14, cck_11, cr11_0, cg11_1, cp11_1, cr11_2, cr11_3, cr11_4, cr11_5, cr11_6, cr11_7, cr11_8, cr11_9, cr11_10, cr11_11, cr11_12, cr11_13, cr11_14, ca_30, cs_30, ca_31, cs_31, ca_32, cs_32, ca_33, cs_33, ca_34, cs_34, ca_35, cs_35, ca_36, cs_36, ca_37, cs_37, ca_38, cs_38, ca_39, cs_39, ca_40, cs_40, ca_41, cs_41, ca_42, cs_42, car_20, car_21, car_22, cq11_3, cq11_4, cq3_1, cq0_0, cq0_1, if_true, if_false, Option.bind_some, cb, lt, nI_1, hs_nar2, nh4, upd_at, vau_at, ca_42_0, cs_42_0, a10]
    exact ⟨_, rfl, fun _ _ => rfl⟩
  | some f =>
    rw [hq] at e10
    obtain ⟨st, g1, g2, g3⟩ := e10
    rw [if_neg (by rw [g2]; exact nI_ne1 (by omega)), g2]
    obtain ⟨g, e11⟩ := g3 F A B r h i P (tLg T (pB P i)) (tWt T (pB P i)) rfl rfl rfl ⟨p0, p1, p2, p3⟩ h5 h6.1 hi a4 a9 a10
    rw [e11]
    simp only [cb, Option.bind_some]
    generalize f (lawV (tLg T (pB P i)) (tWt T (pB P i)) i (pP P i) (P.1 - 1 - i)) = v
    obtain ⟨x, hx, rfl⟩ := iI_of v
    have e99 : (99 : Int32) = iI 99 := rfl
    have e1 : (1 : Int32) = iI 1 := rfl
    rw [e99, e1, c_min ⟨by decide, by decide⟩ hx]
    simp only [Option.bind_some]
    rw [c_max ⟨by decide, by decide⟩ ⟨by omega, by omega⟩]
    simp only [Option.bind_some]
    refine ⟨va_up A (t + 7) g, ?_, fun c q3 => vau_ne q3⟩
    congr 3
    unfold cl
    rw [e1, e99, iI_toInt hx]
    simp only [iI_lt hx (show in32 1 from ⟨by decide, by decide⟩), iI_lt (show in32 99 from ⟨by decide, by decide⟩) hx]
    split
    · omega
    · split <;> omega
theorem c_twiceMiddle {F A : Nat → Nat → Int32} {B : Nat → Nat → Int64} {r : Nat → Nat} {t : Nat} {T : TD} {h : Nat} {P : AP} (q : CRow F A t T h P) {i : Nat} (hi : i < P.1) : fX5_twiceMiddle h t (nI i) (mkC F A B r) = some (iI (2 * pP P i + tLg T (pB P i)), mkC F A B r) := by
  obtain ⟨a1, a2, a3, a4, a5, a6, a7, a8, a9, a10, a11, a12, a13⟩ := q.at hi
  obtain ⟨k0, k1, k2, k3, k4, k5, k6, k7, k8, k9, k10, k11⟩ := TA_of q.1
  obtain ⟨p0, p1, p2, p3⟩ := PA_of q.2.1
  unfold fX5_twiceMiddle fX5_rightEnd
  simp (disch := first | assumption | omega | decide | exact And.intro (by omega) (by omega)) only [cck_0, cr0_0, cr0_1, cr0_2, cr0_3, cg0_4, cp0_4, cg0_5, cp0_5, cck_1, cg1_0, cp1_0, cr1_1, cr1_2, cr1_3, cg1_4, cp1_4, cg1_5, cp1_5, cr1_6, cr1_7, cck_2, cr2_0, cr2_1, cr2_2, cck_3, cr3_0, cr3_1, cg3_2, cp3_2, cg3_3, cp3_3, cg3_4, cp3_4, cg3_5, cp3_5, cg3_6, cp3_6, cg3_7, cp3_7, cg3_8, cp3_8, cck_4, cg4_0, cp4_0, cg4_1, cp4_1, cr4_2, cr4_3, cr4_4, cr4_5, cck_5, cg5_0, cp5_0, cr5_1, cr5_2, cr5_3, cck_6, cg6_0, cp6_0, cg6_1, cp6_1, cck_7, cg7_0, cp7_0, cg7_1, cp7_1, cr7_2, cr7_3, cr7_4, cr7_5, cr7_6, cr7_7, cr7_8, cck_8, cr8_0, cr8_1, cck_9, cr9_0, cr9_1, cr9_2, cr9_3, cg9_4, cp9_4, cck_10, cg10_0, cp10_0, cr10_1, cr10_2, cr10_3, cr10_4, cg10_5, cp10_5, cr10_6, cr10_7, cr10_8, cg10_9, cp10_9, cg10_10, cp10_10, cr10_11, cr10_12, cr10_13, cr10_14, cck_11, cr11_0, cg11_1, cp11_1, cr11_2, cr11_3, cr11_4, cr11_5, cr11_6, cr11_7, cr11_8, cr11_9, cr11_10, cr11_11, cr11_12, cr11_13, cr11_14, ca_30, cs_30, ca_31, cs_31, ca_32, cs_32, ca_33, cs_33, ca_34, cs_34, ca_35, cs_35, ca_36, cs_36, ca_37, cs_37, ca_38, cs_38, ca_39, cs_39, ca_40, cs_40, ca_41, cs_41, ca_42, cs_42, car_20, car_21, car_22, cq11_3, cq11_4, cq3_1, cq0_0, cq0_1, if_true, if_false, Option.bind_some, cb, lt, nI_1, hs_nar2, nh4, upd_at, vau_at, ca_42_0, cs_42_0, a5, a6, a9, iI_add]
  congr 3
  omega
theorem c_rightEnd {F A : Nat → Nat → Int32} {B : Nat → Nat → Int64} {r : Nat → Nat} {t : Nat} {T : TD} {h : Nat} {P : AP} (q : CRow F A t T h P) {i : Nat} (hi : i < P.1) : fX5_rightEnd h t (nI i) (mkC F A B r) = some (iI (pP P i + tLg T (pB P i)), mkC F A B r) := by
  obtain ⟨a1, a2, a3, a4, a5, a6, a7, a8, a9, a10, a11, a12, a13⟩ := q.at hi
  obtain ⟨k0, k1, k2, k3, k4, k5, k6, k7, k8, k9, k10, k11⟩ := TA_of q.1
  obtain ⟨p0, p1, p2, p3⟩ := PA_of q.2.1
  unfold fX5_rightEnd
  simp (disch := first | assumption | omega | decide | exact And.intro (by omega) (by omega)) only [cck_0, cr0_0, cr0_1, cr0_2, cr0_3, cg0_4, cp0_4, cg0_5, cp0_5, cck_1, cg1_0, cp1_0, cr1_1, cr1_2, cr1_3, cg1_4, cp1_4, cg1_5, cp1_5, cr1_6, cr1_7, cck_2, cr2_0, cr2_1, cr2_2, cck_3, cr3_0, cr3_1, cg3_2, cp3_2, cg3_3, cp3_3, cg3_4, cp3_4, cg3_5, cp3_5, cg3_6, cp3_6, cg3_7, cp3_7, cg3_8, cp3_8, cck_4, cg4_0, cp4_0, cg4_1, cp4_1, cr4_2, cr4_3, cr4_4, cr4_5, cck_5, cg5_0, cp5_0, cr5_1, cr5_2, cr5_3, cck_6, cg6_0, cp6_0, cg6_1, cp6_1, cck_7, cg7_0, cp7_0, cg7_1, cp7_1, cr7_2, cr7_3, cr7_4, cr7_5, cr7_6, cr7_7, cr7_8, cck_8, cr8_0, cr8_1, cck_9, cr9_0, cr9_1, cr9_2, cr9_3, cg9_4, cp9_4, cck_10, cg10_0, cp10_0, cr10_1, cr10_2, cr10_3, cr10_4, cg10_5, cp10_5, cr10_6, cr10_7, cr10_8, cg10_9, cp10_9, cg10_10, cp10_10, cr10_11, cr10_12, cr10_13, cr10_14, cck_11, cr11_0, cg11_1, cp11_1, cr11_2, cr11_3, cr11_4, cr11_5, cr11_6, cr11_7, cr11_8, cr11_9, cr11_10, cr11_11, cr11_12, cr11_13, cr11_14, ca_30, cs_30, ca_31, cs_31, ca_32, cs_32, ca_33, cs_33, ca_34, cs_34, ca_35, cs_35, ca_36, cs_36, ca_37, cs_37, ca_38, cs_38, ca_39, cs_39, ca_40, cs_40, ca_41, cs_41, ca_42, cs_42, car_20, car_21, car_22, cq11_3, cq11_4, cq3_1, cq0_0, cq0_1, if_true, if_false, Option.bind_some, cb, lt, nI_1, hs_nar2, nh4, upd_at, vau_at, ca_42_0, cs_42_0, a5, a6, a9, iI_add]
theorem c_twiceFlyTurn {F A : Nat → Nat → Int32} {B : Nat → Nat → Int64} {r : Nat → Nat} {t : Nat} {T : TD} {h : Nat} {P : AP} (q : CRow F A t T h P) {i : Nat} (hi : i < P.1) : fX5_twiceFlyTurn h t (nI i) (mkC F A B r) = some (iI (2 * (pP P i * flyL T (pB P i) (tNf T) + flyT T (pB P i) (tNf T))), mkC F A B r) := by
  obtain ⟨a1, a2, a3, a4, a5, a6, a7, a8, a9, a10, a11, a12, a13⟩ := q.at hi
  obtain ⟨k0, k1, k2, k3, k4, k5, k6, k7, k8, k9, k10, k11⟩ := TA_of q.1
  obtain ⟨p0, p1, p2, p3⟩ := PA_of q.2.1
  unfold fX5_twiceFlyTurn
  simp (disch := first | assumption | omega | decide | exact And.intro (by omega) (by omega)) only [cck_0, cr0_0, cr0_1, cr0_2, cr0_3, cg0_4, cp0_4, cg0_5, cp0_5, cck_1, cg1_0, cp1_0, cr1_1, cr1_2, cr1_3, cg1_4, cp1_4, cg1_5, cp1_5, cr1_6, cr1_7, cck_2, cr2_0, cr2_1, cr2_2, cck_3, cr3_0, cr3_1, cg3_2, cp3_2, cg3_3, cp3_3, cg3_4, cp3_4, cg3_5, cp3_5, cg3_6, cp3_6, cg3_7, cp3_7, cg3_8, cp3_8, cck_4, cg4_0, cp4_0, cg4_1, cp4_1, cr4_2, cr4_3, cr4_4, cr4_5, cck_5, cg5_0, cp5_0, cr5_1, cr5_2, cr5_3, cck_6, cg6_0, cp6_0, cg6_1, cp6_1, cck_7, cg7_0, cp7_0, cg7_1, cp7_1, cr7_2, cr7_3, cr7_4, cr7_5, cr7_6, cr7_7, cr7_8, cck_8, cr8_0, cr8_1, cck_9, cr9_0, cr9_1, cr9_2, cr9_3, cg9_4, cp9_4, cck_10, cg10_0, cp10_0, cr10_1, cr10_2, cr10_3, cr10_4, cg10_5, cp10_5, cr10_6, cr10_7, cr10_8, cg10_9, cp10_9, cg10_10, cp10_10, cr10_11, cr10_12, cr10_13, cr10_14, cck_11, cr11_0, cg11_1, cp11_1, cr11_2, cr11_3, cr11_4, cr11_5, cr11_6, cr11_7, cr11_8, cr11_9, cr11_10, cr11_11, cr11_12, cr11_13, cr11_14, ca_30, cs_30, ca_31, cs_31, ca_32, cs_32, ca_33, cs_33, ca_34, cs_34, ca_35, cs_35, ca_36, cs_36, ca_37, cs_37, ca_38, cs_38, ca_39, cs_39, ca_40, cs_40, ca_41, cs_41, ca_42, cs_42, car_20, car_21, car_22, cq11_3, cq11_4, cq3_1, cq0_0, cq0_1, if_true, if_false, Option.bind_some, cb, lt, nI_1, hs_nar2, nh4, upd_at, vau_at, ca_42_0, cs_42_0, a5, a6, a9, a12, a13, iI_add, iI_mul, two_iI]
theorem c_restLeft {F A : Nat → Nat → Int32} {B : Nat → Nat → Int64} {r : Nat → Nat} {t : Nat} {T : TD} {h : Nat} {P : AP} (q : CRow F A t T h P) {i : Nat} (hi : i < P.1) : fX5_restLeft h t (nI i) (mkC F A B r) = some (iI (lf T P i), mkC F A B r) := by
  obtain ⟨a1, a2, a3, a4, a5, a6, a7, a8, a9, a10, a11, a12, a13⟩ := q.at hi
  have hr := rest_b q.2.2.1.1 q.2.2.2.2 hi
  obtain ⟨k0, k1, k2, k3, k4, k5, k6, k7, k8, k9, k10, k11⟩ := TA_of q.1
  obtain ⟨p0, p1, p2, p3⟩ := PA_of q.2.1
  have e9 := q.2.2.1.2.2.2.1
  unfold fX5_restLeft fX5_restLeft_b20
  by_cases c : i = 0
  · have e : lfB T P i = -tTb T := by unfold lfB; rw [if_pos c]
    have c2 : nI i = 0 := by rw [c]; rfl
    simp (disch := first | assumption | omega | decide | exact And.intro (by omega) (by omega)) only [cck_0, cr0_0, cr0_1, cr0_2, cr0_3, cg0_4, cp0_4, cg0_5, cp0_5, cck_1, cg1_0, cp1_0, cr1_1, cr1_2, cr1_3, cg1_4, cp1_4, cg1_5, cp1_5, cr1_6, cr1_7, cck_2, cr2_0, cr2_1, cr2_2, cck_3, cr3_0, cr3_1, cg3_2, cp3_2, cg3_3, cp3_3, cg3_4, cp3_4, cg3_5, cp3_5, cg3_6, cp3_6, cg3_7, cp3_7, cg3_8, cp3_8, cck_4, cg4_0, cp4_0, cg4_1, cp4_1, cr4_2, cr4_3, cr4_4, cr4_5, cck_5, cg5_0, cp5_0, cr5_1, cr5_2, cr5_3, cck_6, cg6_0, cp6_0, cg6_1, cp6_1, cck_7, cg7_0, cp7_0, cg7_1, cp7_1, cr7_2, cr7_3, cr7_4, cr7_5, cr7_6, cr7_7, cr7_8, cck_8, cr8_0, cr8_1, cck_9, cr9_0, cr9_1, cr9_2, cr9_3, cg9_4, cp9_4, cck_10, cg10_0, cp10_0, cr10_1, cr10_2, cr10_3, cr10_4, cg10_5, cp10_5, cr10_6, cr10_7, cr10_8, cg10_9, cp10_9, cg10_10, cp10_10, cr10_11, cr10_12, cr10_13, cr10_14, cck_11, cr11_0, cg11_1, cp11_1, cr11_2, cr11_3, cr11_4, cr11_5, cr11_6, cr11_7, cr11_8, cr11_9, cr11_10, cr11_11, cr11_12, cr11_13, cr11_14, ca_30, cs_30, ca_31, cs_31, ca_32, cs_32, ca_33, cs_33, ca_34, cs_34, ca_35, cs_35, ca_36, cs_36, ca_37, cs_37, ca_38, cs_38, ca_39, cs_39, ca_40, cs_40, ca_41, cs_41, ca_42, cs_42, car_20, car_21, car_22, cq11_3, cq11_4, cq3_1, cq0_0, cq0_1, if_true, if_false, Option.bind_some, cb, lt, nI_1, hs_nar2, nh4, upd_at, vau_at, ca_42_0, cs_42_0, if_pos c2, e9, iI_neg, a6, ← e, c_max]
    rfl
  · obtain ⟨b1, b2, b3, b4, b5, b6, b7, b8⟩ := q.at (i := i - 1) (by omega)
    have e : lfB T P i = pP P (i - 1) := by unfold lfB; rw [if_neg c]
    have c2 : ¬ nI i = 0 := nI_ne0 (by omega) (by omega)
    have c3 : nI i - 1 = nI (i - 1) := pk_sub (b := 1) (by omega)
    simp (disch := first | assumption | omega | decide | exact And.intro (by omega) (by omega)) only [cck_0, cr0_0, cr0_1, cr0_2, cr0_3, cg0_4, cp0_4, cg0_5, cp0_5, cck_1, cg1_0, cp1_0, cr1_1, cr1_2, cr1_3, cg1_4, cp1_4, cg1_5, cp1_5, cr1_6, cr1_7, cck_2, cr2_0, cr2_1, cr2_2, cck_3, cr3_0, cr3_1, cg3_2, cp3_2, cg3_3, cp3_3, cg3_4, cp3_4, cg3_5, cp3_5, cg3_6, cp3_6, cg3_7, cp3_7, cg3_8, cp3_8, cck_4, cg4_0, cp4_0, cg4_1, cp4_1, cr4_2, cr4_3, cr4_4, cr4_5, cck_5, cg5_0, cp5_0, cr5_1, cr5_2, cr5_3, cck_6, cg6_0, cp6_0, cg6_1, cp6_1, cck_7, cg7_0, cp7_0, cg7_1, cp7_1, cr7_2, cr7_3, cr7_4, cr7_5, cr7_6, cr7_7, cr7_8, cck_8, cr8_0, cr8_1, cck_9, cr9_0, cr9_1, cr9_2, cr9_3, cg9_4, cp9_4, cck_10, cg10_0, cp10_0, cr10_1, cr10_2, cr10_3, cr10_4, cg10_5, cp10_5, cr10_6, cr10_7, cr10_8, cg10_9, cp10_9, cg10_10, cp10_10, cr10_11, cr10_12, cr10_13, cr10_14, cck_11, cr11_0, cg11_1, cp11_1, cr11_2, cr11_3, cr11_4, cr11_5, cr11_6, cr11_7, cr11_8, cr11_9, cr11_10, cr11_11, cr11_12, cr11_13, cr11_14, ca_30, cs_30, ca_31, cs_31, ca_32, cs_32, ca_33, cs_33, ca_34, cs_34, ca_35, cs_35, ca_36, cs_36, ca_37, cs_37, ca_38, cs_38, ca_39, cs_39, ca_40, cs_40, ca_41, cs_41, ca_42, cs_42, car_20, car_21, car_22, cq11_3, cq11_4, cq3_1, cq0_0, cq0_1, if_true, if_false, Option.bind_some, cb, lt, nI_1, hs_nar2, nh4, upd_at, vau_at, ca_42_0, cs_42_0, if_neg c2, c3, b6, a6, ← e, c_max]
    rfl
theorem c_restRight {F A : Nat → Nat → Int32} {B : Nat → Nat → Int64} {r : Nat → Nat} {t : Nat} {T : TD} {h : Nat} {P : AP} (q : CRow F A t T h P) {i : Nat} (hi : i < P.1) : fX5_restRight h t (nI i) (mkC F A B r) = some (iI (rt T P i), mkC F A B r) := by
  obtain ⟨a1, a2, a3, a4, a5, a6, a7, a8, a9, a10, a11, a12, a13⟩ := q.at hi
  have hr := rest_b q.2.2.1.1 q.2.2.2.2 hi
  obtain ⟨p0, p1, p2, p3⟩ := PA_of q.2.1
  unfold fX5_restRight fX5_restRight_b16
  by_cases c : i = 0
  · have e : rtB T P i = 0 := by unfold rtB; rw [if_pos c]
    have c2 : nI i = 0 := by rw [c]; rfl
    have e0 : (0 : Int32) = iI (rtB T P i) := by rw [e]; rfl
    simp (disch := first | assumption | omega | decide | exact And.intro (by omega) (by omega)) only [cck_0, cr0_0, cr0_1, cr0_2, cr0_3, cg0_4, cp0_4, cg0_5, cp0_5, cck_1, cg1_0, cp1_0, cr1_1, cr1_2, cr1_3, cg1_4, cp1_4, cg1_5, cp1_5, cr1_6, cr1_7, cck_2, cr2_0, cr2_1, cr2_2, cck_3, cr3_0, cr3_1, cg3_2, cp3_2, cg3_3, cp3_3, cg3_4, cp3_4, cg3_5, cp3_5, cg3_6, cp3_6, cg3_7, cp3_7, cg3_8, cp3_8, cck_4, cg4_0, cp4_0, cg4_1, cp4_1, cr4_2, cr4_3, cr4_4, cr4_5, cck_5, cg5_0, cp5_0, cr5_1, cr5_2, cr5_3, cck_6, cg6_0, cp6_0, cg6_1, cp6_1, cck_7, cg7_0, cp7_0, cg7_1, cp7_1, cr7_2, cr7_3, cr7_4, cr7_5, cr7_6, cr7_7, cr7_8, cck_8, cr8_0, cr8_1, cck_9, cr9_0, cr9_1, cr9_2, cr9_3, cg9_4, cp9_4, cck_10, cg10_0, cp10_0, cr10_1, cr10_2, cr10_3, cr10_4, cg10_5, cp10_5, cr10_6, cr10_7, cr10_8, cg10_9, cp10_9, cg10_10, cp10_10, cr10_11, cr10_12, cr10_13, cr10_14, cck_11, cr11_0, cg11_1, cp11_1, cr11_2, cr11_3, cr11_4, cr11_5, cr11_6, cr11_7, cr11_8, cr11_9, cr11_10, cr11_11, cr11_12, cr11_13, cr11_14, ca_30, cs_30, ca_31, cs_31, ca_32, cs_32, ca_33, cs_33, ca_34, cs_34, ca_35, cs_35, ca_36, cs_36, ca_37, cs_37, ca_38, cs_38, ca_39, cs_39, ca_40, cs_40, ca_41, cs_41, ca_42, cs_42, car_20, car_21, car_22, cq11_3, cq11_4, cq3_1, cq0_0, cq0_1, if_true, if_false, Option.bind_some, cb, lt, nI_1, hs_nar2, nh4, upd_at, vau_at, ca_42_0, cs_42_0, if_pos c2, c_rightEnd q hi]
    rw [e0]
    simp (disch := first | assumption | omega | decide | exact And.intro (by omega) (by omega)) only [cck_0, cr0_0, cr0_1, cr0_2, cr0_3, cg0_4, cp0_4, cg0_5, cp0_5, cck_1, cg1_0, cp1_0, cr1_1, cr1_2, cr1_3, cg1_4, cp1_4, cg1_5, cp1_5, cr1_6, cr1_7, cck_2, cr2_0, cr2_1, cr2_2, cck_3, cr3_0, cr3_1, cg3_2, cp3_2, cg3_3, cp3_3, cg3_4, cp3_4, cg3_5, cp3_5, cg3_6, cp3_6, cg3_7, cp3_7, cg3_8, cp3_8, cck_4, cg4_0, cp4_0, cg4_1, cp4_1, cr4_2, cr4_3, cr4_4, cr4_5, cck_5, cg5_0, cp5_0, cr5_1, cr5_2, cr5_3, cck_6, cg6_0, cp6_0, cg6_1, cp6_1, cck_7, cg7_0, cp7_0, cg7_1, cp7_1, cr7_2, cr7_3, cr7_4, cr7_5, cr7_6, cr7_7, cr7_8, cck_8, cr8_0, cr8_1, cck_9, cr9_0, cr9_1, cr9_2, cr9_3, cg9_4, cp9_4, cck_10, cg10_0, cp10_0, cr10_1, cr10_2, cr10_3, cr10_4, cg10_5, cp10_5, cr10_6, cr10_7, cr10_8, cg10_9, cp10_9, cg10_10, cp10_10, cr10_11, cr10_12, cr10_13, cr10_14, cck_11, cr11_0, cg11_1, cp11_1, cr11_2, cr11_3, cr11_4, cr11_5, cr11_6, cr11_7, cr11_8, cr11_9, cr11_10, cr11_11, cr11_12, cr11_13, cr11_14, ca_30, cs_30, ca_31, cs_31, ca_32, cs_32, ca_33, cs_33, ca_34, cs_34, ca_35, cs_35, ca_36, cs_36, ca_37, cs_37, ca_38, cs_38, ca_39, cs_39, ca_40, cs_40, ca_41, cs_41, ca_42, cs_42, car_20, car_21, car_22, cq11_3, cq11_4, cq3_1, cq0_0, cq0_1, if_true, if_false, Option.bind_some, cb, lt, nI_1, hs_nar2, nh4, upd_at, vau_at, ca_42_0, cs_42_0, c_min]
    rfl
  · have e : rtB T P i = pP P (i - 1) + tLg T (pB P (i - 1)) := by unfold rtB; rw [if_neg c]
    have c2 : ¬ nI i = 0 := nI_ne0 (by omega) (by omega)
    have c3 : nI i - 1 = nI (i - 1) := pk_sub (b := 1) (by omega)
    simp (disch := first | assumption | omega | decide | exact And.intro (by omega) (by omega)) only [cck_0, cr0_0, cr0_1, cr0_2, cr0_3, cg0_4, cp0_4, cg0_5, cp0_5, cck_1, cg1_0, cp1_0, cr1_1, cr1_2, cr1_3, cg1_4, cp1_4, cg1_5, cp1_5, cr1_6, cr1_7, cck_2, cr2_0, cr2_1, cr2_2, cck_3, cr3_0, cr3_1, cg3_2, cp3_2, cg3_3, cp3_3, cg3_4, cp3_4, cg3_5, cp3_5, cg3_6, cp3_6, cg3_7, cp3_7, cg3_8, cp3_8, cck_4, cg4_0, cp4_0, cg4_1, cp4_1, cr4_2, cr4_3, cr4_4, cr4_5, cck_5, cg5_0, cp5_0, cr5_1, cr5_2, cr5_3, cck_6, cg6_0, cp6_0, cg6_1, cp6_1, cck_7, cg7_0, cp7_0, cg7_1, cp7_1, cr7_2, cr7_3, cr7_4, cr7_5, cr7_6, cr7_7, cr7_8, cck_8, cr8_0, cr8_1, cck_9, cr9_0, cr9_1, cr9_2, cr9_3, cg9_4, cp9_4, cck_10, cg10_0, cp10_0, cr10_1, cr10_2, cr10_3, cr10_4, cg10_5, cp10_5, cr10_6, cr10_7, cr10_8, cg10_9, cp10_9, cg10_10, cp10_10, cr10_11, cr10_12, cr10_13, cr10_14, cck_11, cr11_0, cg11_1, cp11_1, cr11_2, cr11_3, cr11_4, cr11_5, cr11_6, cr11_7, cr11_8, cr11_9, cr11_10, cr11_11, cr11_12, cr11_13, cr11_14, ca_30, cs_30, ca_31, cs_31, ca_32, cs_32, ca_33, cs_33, ca_34, cs_34, ca_35, cs_35, ca_36, cs_36, ca_37, cs_37, ca_38, cs_38, ca_39, cs_39, ca_40, cs_40, ca_41, cs_41, ca_42, cs_42, car_20, car_21, car_22, cq11_3, cq11_4, cq3_1, cq0_0, cq0_1, if_true, if_false, Option.bind_some, cb, lt, nI_1, hs_nar2, nh4, upd_at, vau_at, ca_42_0, cs_42_0, if_neg c2, c3, c_rightEnd q (show i - 1 < P.1 by omega), c_rightEnd q hi, ← e, c_min]
    rfl
theorem c_glue {F A : Nat → Nat → Int32} {B : Nat → Nat → Int64} {r : Nat → Nat} {t : Nat} {T : TD} {h : Nat} {P : AP} (q : CRow F A t T h P) {i : Nat} (hi : i < P.1) : fX5_isHeldByGlue h (nI i) (mkC F A B r) = some (b2 (decide (0 < i ∧ pG P i = 1)), mkC F A B r) := by
  obtain ⟨a1, a2, a3, a4, a5, a6, a7, a8, a9, a10, a11, a12, a13⟩ := q.at hi
  obtain ⟨p0, p1, p2, p3⟩ := PA_of q.2.1
  have hg := q.2.2.2.2.2.2.2.2 i hi
  unfold fX5_isHeldByGlue
  by_cases c : i = 0
  · rw [cck_5 p0, if_pos (by rw [c]; decide), show decide (0 < i ∧ pG P i = 1) = false from decide_eq_false (by omega)]
    rfl
  · rw [cck_5 p0, if_neg (nI_nle (by omega) (by omega))]
    simp (disch := first | assumption | omega | decide | exact And.intro (by omega) (by omega)) only [cck_0, cr0_0, cr0_1, cr0_2, cr0_3, cg0_4, cp0_4, cg0_5, cp0_5, cck_1, cg1_0, cp1_0, cr1_1, cr1_2, cr1_3, cg1_4, cp1_4, cg1_5, cp1_5, cr1_6, cr1_7, cck_2, cr2_0, cr2_1, cr2_2, cck_3, cr3_0, cr3_1, cg3_2, cp3_2, cg3_3, cp3_3, cg3_4, cp3_4, cg3_5, cp3_5, cg3_6, cp3_6, cg3_7, cp3_7, cg3_8, cp3_8, cck_4, cg4_0, cp4_0, cg4_1, cp4_1, cr4_2, cr4_3, cr4_4, cr4_5, cck_5, cg5_0, cp5_0, cr5_1, cr5_2, cr5_3, cck_6, cg6_0, cp6_0, cg6_1, cp6_1, cck_7, cg7_0, cp7_0, cg7_1, cp7_1, cr7_2, cr7_3, cr7_4, cr7_5, cr7_6, cr7_7, cr7_8, cck_8, cr8_0, cr8_1, cck_9, cr9_0, cr9_1, cr9_2, cr9_3, cg9_4, cp9_4, cck_10, cg10_0, cp10_0, cr10_1, cr10_2, cr10_3, cr10_4, cg10_5, cp10_5, cr10_6, cr10_7, cr10_8, cg10_9, cp10_9, cg10_10, cp10_10, cr10_11, cr10_12, cr10_13, cr10_14, cck_11, cr11_0, cg11_1, cp11_1, cr11_2, cr11_3, cr11_4, cr11_5, cr11_6, cr11_7, cr11_8, cr11_9, cr11_10, cr11_11, cr11_12, cr11_13, cr11_14, ca_30, cs_30, ca_31, cs_31, ca_32, cs_32, ca_33, cs_33, ca_34, cs_34, ca_35, cs_35, ca_36, cs_36, ca_37, cs_37, ca_38, cs_38, ca_39, cs_39, ca_40, cs_40, ca_41, cs_41, ca_42, cs_42, car_20, car_21, car_22, cq11_3, cq11_4, cq3_1, cq0_0, cq0_1, if_true, if_false, Option.bind_some, cb, lt, nI_1, hs_nar2, nh4, upd_at, vau_at, ca_42_0, cs_42_0, a7]
    rcases hg with hg | hg
    · rw [if_pos hg, show decide (0 < i ∧ pG P i = 1) = false from decide_eq_false (by rw [hg]; exact fun z => absurd z.2 (by decide))]
      rfl
    · rw [if_neg (by rw [hg]; decide), show decide (0 < i ∧ pG P i = 1) = true from decide_eq_true ⟨by omega, hg⟩]
      rfl
