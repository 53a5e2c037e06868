/-! ===== see ===== -/
def SightAt (A : Nat → Nat → Int32) (T : TD) (k : Nat) (P : AP) (i : Nat) : Prop := A (k + 1) i = nI (P.2.1 i) ∧ A (k + 2) i = iI (2 * P.2.2.1 i + tLg T (P.2.1 i)) ∧ A (k + 3) i = iI (flyL T (P.2.1 i) (tNf T)) ∧ A (k + 4) i = iI (2 * (P.2.2.1 i * flyL T (P.2.1 i) (tNf T) + flyT T (P.2.1 i) (tNf T))) ∧
  A (k + 5) i = iI (2 * max (if i = 0 then -tTb T else P.2.2.1 (i - 1)) (P.2.2.1 i)) ∧ A (k + 6) i = iI (2 * min (if i = 0 then 0 else P.2.2.1 (i - 1) + tLg T (P.2.1 (i - 1))) (P.2.2.1 i + tLg T (P.2.1 i))) ∧ A (k + 7) i = (if i = 0 then 0 else P.2.2.2 i)
theorem SA_of {j : Nat} (h : j < 6) : c_kd (75 + 8 * j) = 7 ∧ c_kd (75 + 8 * j + 1) = 35 ∧ c_kd (75 + 8 * j + 2) = 35 ∧ c_kd (75 + 8 * j + 3) = 35 ∧ c_kd (75 + 8 * j + 4) = 35 ∧ c_kd (75 + 8 * j + 5) = 35 ∧ c_kd (75 + 8 * j + 6) = 35 ∧ c_kd (75 + 8 * j + 7) = 38 := by
  have : j = 0 ∨ j = 1 ∨ j = 2 ∨ j = 3 ∨ j = 4 ∨ j = 5 := by omega
  rcases this with rfl | rfl | rfl | rfl | rfl | rfl <;> exact ⟨rfl, rfl, rfl, rfl, rfl, rfl, rfl, rfl⟩
theorem c_take_b {F : Nat → Nat → Int32} {B : Nat → Nat → Int64} {r : Nat → Nat} {t : Nat} {T : TD} {P : AP} {k : Nat} (hk : 75 ≤ k) (hs : c_kd k = 7 ∧ c_kd (k + 1) = 35 ∧ c_kd (k + 2) = 35 ∧ c_kd (k + 3) = 35 ∧ c_kd (k + 4) = 35 ∧ c_kd (k + 5) = 35 ∧ c_kd (k + 6) = 35 ∧ c_kd (k + 7) = 38) (h1 : F k 1 = nI P.1) : ∀ m i fuel, i + m = P.1 → m < fuel → ∀ (A : Nat → Nat → Int32), CRow F A t T 38 P → (∀ j, j < i → SightAt A T k P j) → ∃ A', fX7_take_b16 fuel k t 38 (nI i) (mkC F A B r) = some ((), mkC F A' B r) ∧ (∀ c, ¬ (k + 1 ≤ c ∧ c ≤ k + 7) → A' c = A c) ∧ ∀ j, j < P.1 → SightAt A' T k P j := by
  obtain ⟨s0, s1, s2, s3, s4, s5, s6, s7⟩ := hs
  intro m
  induction m with
  | zero =>
    intro i fuel h3 h4 A hC hj
    obtain ⟨fuel, rfl⟩ : ∃ q, fuel = q + 1 := ⟨fuel - 1, by omega⟩
    have h6 := hC.2.2.2.2.1
    rw [fX7_take_b16]
    simp -implicitDefEqProofs (disch := first | assumption | omega | decide | exact And.intro (by omega) (by omega)) only [cck_0, cr0_0, cr0_1, cr0_2, cr0_3, cg0_4, cp0_4, cg0_5, cp0_5, cck_1, cg1_0, cp1_0, cr1_1, cr1_2, cr1_3, cg1_4, cp1_4, cg1_5, cp1_5, cr1_6, cr1_7, cck_2, cr2_0, cr2_1, cr2_2, cck_3, cr3_0, cr3_1, cg3_2, cp3_2, cg3_3, cp3_3, cg3_4, cp3_4, cg3_5, cp3_5, cg3_6, cp3_6, cg3_7, cp3_7, cg3_8, cp3_8, cck_4, cg4_0, cp4_0, cg4_1, cp4_1, cr4_2, cr4_3, cr4_4, cr4_5, cck_5, cg5_0, cp5_0, cr5_1, cr5_2, cr5_3, cck_6, cg6_0, cp6_0, cg6_1, cp6_1, cck_7, cg7_0, cp7_0, cg7_1, cp7_1, cr7_2, cr7_3, cr7_4, cr7_5, cr7_6, cr7_7, cr7_8, cck_8, cr8_0, cr8_1, cck_9, cr9_0, cr9_1, cr9_2, cr9_3, cg9_4, cp9_4, cck_10, cg10_0, cp10_0, cr10_1, cr10_2, cr10_3, cr10_4, cg10_5, cp10_5, cr10_6, cr10_7, cr10_8, cg10_9, cp10_9, cg10_10, cp10_10, cr10_11, cr10_12, cr10_13, cr10_14, cck_11, cr11_0, cg11_1, cp11_1, cr11_2, cr11_3, cr11_4, cr11_5, cr11_6, cr11_7, cr11_8, cr11_9, cr11_10, cr11_11, cr11_12, cr11_13, cr11_14, ca_30, cs_30, ca_31, cs_31, ca_32, cs_32, ca_33, cs_33, ca_34, cs_34, ca_35, cs_35, ca_36, cs_36, ca_37, cs_37, ca_38, cs_38, ca_39, cs_39, ca_40, cs_40, ca_41, cs_41, ca_42, cs_42, car_20, car_21, car_22, cq11_3, cq11_4, cq3_1, cq0_0, cq0_1, if_true, if_false, Option.bind_some, cb, lt, nI_1, hs_nar2, nh4, upd_at, vau_at, ca_42_0, cs_42_0, h1]
    rw [if_pos (nI_le (by omega) (by omega))]
    exact ⟨A, rfl, fun _ _ => rfl, fun j q => hj j (by omega)⟩
  | succ m ih =>
    intro i fuel h3 h4 A hC hj
    obtain ⟨fuel, rfl⟩ : ∃ q, fuel = q + 1 := ⟨fuel - 1, by omega⟩
    have hi : i < P.1 := by omega
    have h6 := hC.2.2.2.2.1
    have t7 := hC.1
    obtain ⟨k0, k1, k2, k3, k4, k5, k6, k7, k8, k9, k10, k11⟩ := TA_of hC.1
    obtain ⟨a1, a2, a3, a4, a5, a6, a7, a8, a9, a10, a11, a12, a13⟩ := hC.at hi
    have upC : ∀ (A1 : Nat → Nat → Int32) (c : Nat) (g : Nat → Int32), 75 < c → CRow F A1 t T 38 P → CRow F (va_up A1 c g) t T 38 P := fun A1 c g hc q =>
      ⟨q.1, q.2.1, ⟨q.2.2.1.1, q.2.2.1.2.eq rfl (fun c' q1 q2 q3 => vau_ne (by omega))⟩, q.2.2.2.1.eq rfl (vau_ne (by omega)) (vau_ne (by omega)) (vau_ne (by omega)), q.2.2.2.2⟩
    rw [fX7_take_b16]
    simp -implicitDefEqProofs (disch := first | assumption | omega | decide | exact And.intro (by omega) (by omega)) only [cck_0, cr0_0, cr0_1, cr0_2, cr0_3, cg0_4, cp0_4, cg0_5, cp0_5, cck_1, cg1_0, cp1_0, cr1_1, cr1_2, cr1_3, cg1_4, cp1_4, cg1_5, cp1_5, cr1_6, cr1_7, cck_2, cr2_0, cr2_1, cr2_2, cck_3, cr3_0, cr3_1, cg3_2, cp3_2, cg3_3, cp3_3, cg3_4, cp3_4, cg3_5, cp3_5, cg3_6, cp3_6, cg3_7, cp3_7, cg3_8, cp3_8, cck_4, cg4_0, cp4_0, cg4_1, cp4_1, cr4_2, cr4_3, cr4_4, cr4_5, cck_5, cg5_0, cp5_0, cr5_1, cr5_2, cr5_3, cck_6, cg6_0, cp6_0, cg6_1, cp6_1, cck_7, cg7_0, cp7_0, cg7_1, cp7_1, cr7_2, cr7_3, cr7_4, cr7_5, cr7_6, cr7_7, cr7_8, cck_8, cr8_0, cr8_1, cck_9, cr9_0, cr9_1, cr9_2, cr9_3, cg9_4, cp9_4, cck_10, cg10_0, cp10_0, cr10_1, cr10_2, cr10_3, cr10_4, cg10_5, cp10_5, cr10_6, cr10_7, cr10_8, cg10_9, cp10_9, cg10_10, cp10_10, cr10_11, cr10_12, cr10_13, cr10_14, cck_11, cr11_0, cg11_1, cp11_1, cr11_2, cr11_3, cr11_4, cr11_5, cr11_6, cr11_7, cr11_8, cr11_9, cr11_10, cr11_11, cr11_12, cr11_13, cr11_14, ca_30, cs_30, ca_31, cs_31, ca_32, cs_32, ca_33, cs_33, ca_34, cs_34, ca_35, cs_35, ca_36, cs_36, ca_37, cs_37, ca_38, cs_38, ca_39, cs_39, ca_40, cs_40, ca_41, cs_41, ca_42, cs_42, car_20, car_21, car_22, cq11_3, cq11_4, cq3_1, cq0_0, cq0_1, if_true, if_false, Option.bind_some, cb, lt, nI_1, hs_nar2, nh4, upd_at, vau_at, ca_42_0, cs_42_0, h1]
    rw [if_neg (nI_ge (by omega) (by omega))]
    simp -implicitDefEqProofs (disch := first | assumption | omega | decide | exact And.intro (by omega) (by omega)) only [cck_0, cr0_0, cr0_1, cr0_2, cr0_3, cg0_4, cp0_4, cg0_5, cp0_5, cck_1, cg1_0, cp1_0, cr1_1, cr1_2, cr1_3, cg1_4, cp1_4, cg1_5, cp1_5, cr1_6, cr1_7, cck_2, cr2_0, cr2_1, cr2_2, cck_3, cr3_0, cr3_1, cg3_2, cp3_2, cg3_3, cp3_3, cg3_4, cp3_4, cg3_5, cp3_5, cg3_6, cp3_6, cg3_7, cp3_7, cg3_8, cp3_8, cck_4, cg4_0, cp4_0, cg4_1, cp4_1, cr4_2, cr4_3, cr4_4, cr4_5, cck_5, cg5_0, cp5_0, cr5_1, cr5_2, cr5_3, cck_6, cg6_0, cp6_0, cg6_1, cp6_1, cck_7, cg7_0, cp7_0, cg7_1, cp7_1, cr7_2, cr7_3, cr7_4, cr7_5, cr7_6, cr7_7, cr7_8, cck_8, cr8_0, cr8_1, cck_9, cr9_0, cr9_1, cr9_2, cr9_3, cg9_4, cp9_4, cck_10, cg10_0, cp10_0, cr10_1, cr10_2, cr10_3, cr10_4, cg10_5, cp10_5, cr10_6, cr10_7, cr10_8, cg10_9, cp10_9, cg10_10, cp10_10, cr10_11, cr10_12, cr10_13, cr10_14, cck_11, cr11_0, cg11_1, cp11_1, cr11_2, cr11_3, cr11_4, cr11_5, cr11_6, cr11_7, cr11_8, cr11_9, cr11_10, cr11_11, cr11_12, cr11_13, cr11_14, ca_30, cs_30, ca_31, cs_31, ca_32, cs_32, ca_33, cs_33, ca_34, cs_34, ca_35, cs_35, ca_36, cs_36, ca_37, cs_37, ca_38, cs_38, ca_39, cs_39, ca_40, cs_40, ca_41, cs_41, ca_42, cs_42, car_20, car_21, car_22, cq11_3, cq11_4, cq3_1, cq0_0, cq0_1, if_true, if_false, Option.bind_some, cb, lt, nI_1, hs_nar2, nh4, upd_at, vau_at, ca_42_0, cs_42_0, a5]
    have c1 := upC A (k + 1) (upd (A (k + 1)) i (nI (pB P i))) (by omega) hC
    generalize hA1 : va_up A (k + 1) (upd (A (k + 1)) i (nI (pB P i))) = A1 at c1 ⊢
    simp -implicitDefEqProofs (disch := first | assumption | omega | decide | exact And.intro (by omega) (by omega)) only [cck_0, cr0_0, cr0_1, cr0_2, cr0_3, cg0_4, cp0_4, cg0_5, cp0_5, cck_1, cg1_0, cp1_0, cr1_1, cr1_2, cr1_3, cg1_4, cp1_4, cg1_5, cp1_5, cr1_6, cr1_7, cck_2, cr2_0, cr2_1, cr2_2, cck_3, cr3_0, cr3_1, cg3_2, cp3_2, cg3_3, cp3_3, cg3_4, cp3_4, cg3_5, cp3_5, cg3_6, cp3_6, cg3_7, cp3_7, cg3_8, cp3_8, cck_4, cg4_0, cp4_0, cg4_1, cp4_1, cr4_2, cr4_3, cr4_4, cr4_5, cck_5, cg5_0, cp5_0, cr5_1, cr5_2, cr5_3, cck_6, cg6_0, cp6_0, cg6_1, cp6_1, cck_7, cg7_0, cp7_0, cg7_1, cp7_1, cr7_2, cr7_3, cr7_4, cr7_5, cr7_6, cr7_7, cr7_8, cck_8, cr8_0, cr8_1, cck_9, cr9_0, cr9_1, cr9_2, cr9_3, cg9_4, cp9_4, cck_10, cg10_0, cp10_0, cr10_1, cr10_2, cr10_3, cr10_4, cg10_5, cp10_5, cr10_6, cr10_7, cr10_8, cg10_9, cp10_9, cg10_10, cp10_10, cr10_11, cr10_12, cr10_13, cr10_14, cck_11, cr11_0, cg11_1, cp11_1, cr11_2, cr11_3, cr11_4, cr11_5, cr11_6, cr11_7, cr11_8, cr11_9, cr11_10, cr11_11, cr11_12, cr11_13, cr11_14, ca_30, cs_30, ca_31, cs_31, ca_32, cs_32, ca_33, cs_33, ca_34, cs_34, ca_35, cs_35, ca_36, cs_36, ca_37, cs_37, ca_38, cs_38, ca_39, cs_39, ca_40, cs_40, ca_41, cs_41, ca_42, cs_42, car_20, car_21, car_22, cq11_3, cq11_4, cq3_1, cq0_0, cq0_1, if_true, if_false, Option.bind_some, cb, lt, nI_1, hs_nar2, nh4, upd_at, vau_at, ca_42_0, cs_42_0, c_twiceMiddle c1 hi]
    have c2 := upC A1 (k + 2) (upd (A1 (k + 2)) i (iI (2 * pP P i + tLg T (pB P i)))) (by omega) c1
    have x1 : A1 (k + 1) i = nI (pB P i) := by rw [← hA1, vau_at, upd_at]
    have x2 : va_up A1 (k + 2) (upd (A1 (k + 2)) i (iI (2 * pP P i + tLg T (pB P i)))) (k + 1) i = nI (pB P i) := by rw [vau_ne (by omega)]; exact x1
    generalize hA2 : va_up A1 (k + 2) (upd (A1 (k + 2)) i (iI (2 * pP P i + tLg T (pB P i)))) = A2 at c2 x2 ⊢
    have a12' := (c2.at hi).2.2.2.2.2.2.2.2.2.2.2.1
    simp -implicitDefEqProofs (disch := first | assumption | omega | decide | exact And.intro (by omega) (by omega)) only [cck_0, cr0_0, cr0_1, cr0_2, cr0_3, cg0_4, cp0_4, cg0_5, cp0_5, cck_1, cg1_0, cp1_0, cr1_1, cr1_2, cr1_3, cg1_4, cp1_4, cg1_5, cp1_5, cr1_6, cr1_7, cck_2, cr2_0, cr2_1, cr2_2, cck_3, cr3_0, cr3_1, cg3_2, cp3_2, cg3_3, cp3_3, cg3_4, cp3_4, cg3_5, cp3_5, cg3_6, cp3_6, cg3_7, cp3_7, cg3_8, cp3_8, cck_4, cg4_0, cp4_0, cg4_1, cp4_1, cr4_2, cr4_3, cr4_4, cr4_5, cck_5, cg5_0, cp5_0, cr5_1, cr5_2, cr5_3, cck_6, cg6_0, cp6_0, cg6_1, cp6_1, cck_7, cg7_0, cp7_0, cg7_1, cp7_1, cr7_2, cr7_3, cr7_4, cr7_5, cr7_6, cr7_7, cr7_8, cck_8, cr8_0, cr8_1, cck_9, cr9_0, cr9_1, cr9_2, cr9_3, cg9_4, cp9_4, cck_10, cg10_0, cp10_0, cr10_1, cr10_2, cr10_3, cr10_4, cg10_5, cp10_5, cr10_6, cr10_7, cr10_8, cg10_9, cp10_9, cg10_10, cp10_10, cr10_11, cr10_12, cr10_13, cr10_14, cck_11, cr11_0, cg11_1, cp11_1, cr11_2, cr11_3, cr11_4, cr11_5, cr11_6, cr11_7, cr11_8, cr11_9, cr11_10, cr11_11, cr11_12, cr11_13, cr11_14, ca_30, cs_30, ca_31, cs_31, ca_32, cs_32, ca_33, cs_33, ca_34, cs_34, ca_35, cs_35, ca_36, cs_36, ca_37, cs_37, ca_38, cs_38, ca_39, cs_39, ca_40, cs_40, ca_41, cs_41, ca_42, cs_42, car_20, car_21, car_22, cq11_3, cq11_4, cq3_1, cq0_0, cq0_1, if_true, if_false, Option.bind_some, cb, lt, nI_1, hs_nar2, nh4, upd_at, vau_at, ca_42_0, cs_42_0, x2, a12']
    have c3 := upC A2 (k + 3) (upd (A2 (k + 3)) i (iI (flyL T (pB P i) (tNf T)))) (by omega) c2
    generalize hA3 : va_up A2 (k + 3) (upd (A2 (k + 3)) i (iI (flyL T (pB P i) (tNf T)))) = A3 at c3 ⊢
    simp -implicitDefEqProofs (disch := first | assumption | omega | decide | exact And.intro (by omega) (by omega)) only [cck_0, cr0_0, cr0_1, cr0_2, cr0_3, cg0_4, cp0_4, cg0_5, cp0_5, cck_1, cg1_0, cp1_0, cr1_1, cr1_2, cr1_3, cg1_4, cp1_4, cg1_5, cp1_5, cr1_6, cr1_7, cck_2, cr2_0, cr2_1, cr2_2, cck_3, cr3_0, cr3_1, cg3_2, cp3_2, cg3_3, cp3_3, cg3_4, cp3_4, cg3_5, cp3_5, cg3_6, cp3_6, cg3_7, cp3_7, cg3_8, cp3_8, cck_4, cg4_0, cp4_0, cg4_1, cp4_1, cr4_2, cr4_3, cr4_4, cr4_5, cck_5, cg5_0, cp5_0, cr5_1, cr5_2, cr5_3, cck_6, cg6_0, cp6_0, cg6_1, cp6_1, cck_7, cg7_0, cp7_0, cg7_1, cp7_1, cr7_2, cr7_3, cr7_4, cr7_5, cr7_6, cr7_7, cr7_8, cck_8, cr8_0, cr8_1, cck_9, cr9_0, cr9_1, cr9_2, cr9_3, cg9_4, cp9_4, cck_10, cg10_0, cp10_0, cr10_1, cr10_2, cr10_3, cr10_4, cg10_5, cp10_5, cr10_6, cr10_7, cr10_8, cg10_9, cp10_9, cg10_10, cp10_10, cr10_11, cr10_12, cr10_13, cr10_14, cck_11, cr11_0, cg11_1, cp11_1, cr11_2, cr11_3, cr11_4, cr11_5, cr11_6, cr11_7, cr11_8, cr11_9, cr11_10, cr11_11, cr11_12, cr11_13, cr11_14, ca_30, cs_30, ca_31, cs_31, ca_32, cs_32, ca_33, cs_33, ca_34, cs_34, ca_35, cs_35, ca_36, cs_36, ca_37, cs_37, ca_38, cs_38, ca_39, cs_39, ca_40, cs_40, ca_41, cs_41, ca_42, cs_42, car_20, car_21, car_22, cq11_3, cq11_4, cq3_1, cq0_0, cq0_1, if_true, if_false, Option.bind_some, cb, lt, nI_1, hs_nar2, nh4, upd_at, vau_at, ca_42_0, cs_42_0, c_twiceFlyTurn c3 hi]
    have c4 := upC A3 (k + 4) (upd (A3 (k + 4)) i (iI (2 * (pP P i * flyL T (pB P i) (tNf T) + flyT T (pB P i) (tNf T))))) (by omega) c3
    generalize hA4 : va_up A3 (k + 4) (upd (A3 (k + 4)) i (iI (2 * (pP P i * flyL T (pB P i) (tNf T) + flyT T (pB P i) (tNf T))))) = A4 at c4 ⊢
    simp -implicitDefEqProofs (disch := first | assumption | omega | decide | exact And.intro (by omega) (by omega)) only [cck_0, cr0_0, cr0_1, cr0_2, cr0_3, cg0_4, cp0_4, cg0_5, cp0_5, cck_1, cg1_0, cp1_0, cr1_1, cr1_2, cr1_3, cg1_4, cp1_4, cg1_5, cp1_5, cr1_6, cr1_7, cck_2, cr2_0, cr2_1, cr2_2, cck_3, cr3_0, cr3_1, cg3_2, cp3_2, cg3_3, cp3_3, cg3_4, cp3_4, cg3_5, cp3_5, cg3_6, cp3_6, cg3_7, cp3_7, cg3_8, cp3_8, cck_4, cg4_0, cp4_0, cg4_1, cp4_1, cr4_2, cr4_3, cr4_4, cr4_5, cck_5, cg5_0, cp5_0, cr5_1, cr5_2, cr5_3, cck_6, cg6_0, cp6_0, cg6_1, cp6_1, cck_7, cg7_0, cp7_0, cg7_1, cp7_1, cr7_2, cr7_3, cr7_4, cr7_5, cr7_6, cr7_7, cr7_8, cck_8, cr8_0, cr8_1, cck_9, cr9_0, cr9_1, cr9_2, cr9_3, cg9_4, cp9_4, cck_10, cg10_0, cp10_0, cr10_1, cr10_2, cr10_3, cr10_4, cg10_5, cp10_5, cr10_6, cr10_7, cr10_8, cg10_9, cp10_9, cg10_10, cp10_10, cr10_11, cr10_12, cr10_13, cr10_14, cck_11, cr11_0, cg11_1, cp11_1, cr11_2, cr11_3, cr11_4, cr11_5, cr11_6, cr11_7, cr11_8, cr11_9, cr11_10, cr11_11, cr11_12, cr11_13, cr11_14, ca_30, cs_30, ca_31, cs_31, ca_32, cs_32, ca_33, cs_33, ca_34, cs_34, ca_35, cs_35, ca_36, cs_36, ca_37, cs_37, ca_38, cs_38, ca_39, cs_39, ca_40, cs_40, ca_41, cs_41, ca_42, cs_42, car_20, car_21, car_22, cq11_3, cq11_4, cq3_1, cq0_0, cq0_1, if_true, if_false, Option.bind_some, cb, lt, nI_1, hs_nar2, nh4, upd_at, vau_at, ca_42_0, cs_42_0, c_restLeft c4 hi, two_iI]
    have c5 := upC A4 (k + 5) (upd (A4 (k + 5)) i (iI (2 * lf T P i))) (by omega) c4
    generalize hA5 : va_up A4 (k + 5) (upd (A4 (k + 5)) i (iI (2 * lf T P i))) = A5 at c5 ⊢
    simp -implicitDefEqProofs (disch := first | assumption | omega | decide | exact And.intro (by omega) (by omega)) only [cck_0, cr0_0, cr0_1, cr0_2, cr0_3, cg0_4, cp0_4, cg0_5, cp0_5, cck_1, cg1_0, cp1_0, cr1_1, cr1_2, cr1_3, cg1_4, cp1_4, cg1_5, cp1_5, cr1_6, cr1_7, cck_2, cr2_0, cr2_1, cr2_2, cck_3, cr3_0, cr3_1, cg3_2, cp3_2, cg3_3, cp3_3, cg3_4, cp3_4, cg3_5, cp3_5, cg3_6, cp3_6, cg3_7, cp3_7, cg3_8, cp3_8, cck_4, cg4_0, cp4_0, cg4_1, cp4_1, cr4_2, cr4_3, cr4_4, cr4_5, cck_5, cg5_0, cp5_0, cr5_1, cr5_2, cr5_3, cck_6, cg6_0, cp6_0, cg6_1, cp6_1, cck_7, cg7_0, cp7_0, cg7_1, cp7_1, cr7_2, cr7_3, cr7_4, cr7_5, cr7_6, cr7_7, cr7_8, cck_8, cr8_0, cr8_1, cck_9, cr9_0, cr9_1, cr9_2, cr9_3, cg9_4, cp9_4, cck_10, cg10_0, cp10_0, cr10_1, cr10_2, cr10_3, cr10_4, cg10_5, cp10_5, cr10_6, cr10_7, cr10_8, cg10_9, cp10_9, cg10_10, cp10_10, cr10_11, cr10_12, cr10_13, cr10_14, cck_11, cr11_0, cg11_1, cp11_1, cr11_2, cr11_3, cr11_4, cr11_5, cr11_6, cr11_7, cr11_8, cr11_9, cr11_10, cr11_11, cr11_12, cr11_13, cr11_14, ca_30, cs_30, ca_31, cs_31, ca_32, cs_32, ca_33, cs_33, ca_34, cs_34, ca_35, cs_35, ca_36, cs_36, ca_37, cs_37, ca_38, cs_38, ca_39, cs_39, ca_40, cs_40, ca_41, cs_41, ca_42, cs_42, car_20, car_21, car_22, cq11_3, cq11_4, cq3_1, cq0_0, cq0_1, if_true, if_false, Option.bind_some, cb, lt, nI_1, hs_nar2, nh4, upd_at, vau_at, ca_42_0, cs_42_0, c_restRight c5 hi, two_iI]
    have c6 := upC A5 (k + 6) (upd (A5 (k + 6)) i (iI (2 * rt T P i))) (by omega) c5
    generalize hA6 : va_up A5 (k + 6) (upd (A5 (k + 6)) i (iI (2 * rt T P i))) = A6 at c6 ⊢
    have nb : hs_nar 4 (b2 (decide (0 < i ∧ pG P i = 1))) = b2 (decide (0 < i ∧ pG P i = 1)) := by
      cases decide (0 < i ∧ pG P i = 1) <;> rfl
    simp -implicitDefEqProofs (disch := first | assumption | omega | decide | exact And.intro (by omega) (by omega)) only [cck_0, cr0_0, cr0_1, cr0_2, cr0_3, cg0_4, cp0_4, cg0_5, cp0_5, cck_1, cg1_0, cp1_0, cr1_1, cr1_2, cr1_3, cg1_4, cp1_4, cg1_5, cp1_5, cr1_6, cr1_7, cck_2, cr2_0, cr2_1, cr2_2, cck_3, cr3_0, cr3_1, cg3_2, cp3_2, cg3_3, cp3_3, cg3_4, cp3_4, cg3_5, cp3_5, cg3_6, cp3_6, cg3_7, cp3_7, cg3_8, cp3_8, cck_4, cg4_0, cp4_0, cg4_1, cp4_1, cr4_2, cr4_3, cr4_4, cr4_5, cck_5, cg5_0, cp5_0, cr5_1, cr5_2, cr5_3, cck_6, cg6_0, cp6_0, cg6_1, cp6_1, cck_7, cg7_0, cp7_0, cg7_1, cp7_1, cr7_2, cr7_3, cr7_4, cr7_5, cr7_6, cr7_7, cr7_8, cck_8, cr8_0, cr8_1, cck_9, cr9_0, cr9_1, cr9_2, cr9_3, cg9_4, cp9_4, cck_10, cg10_0, cp10_0, cr10_1, cr10_2, cr10_3, cr10_4, cg10_5, cp10_5, cr10_6, cr10_7, cr10_8, cg10_9, cp10_9, cg10_10, cp10_10, cr10_11, cr10_12, cr10_13, cr10_14, cck_11, cr11_0, cg11_1, cp11_1, cr11_2, cr11_3, cr11_4, cr11_5, cr11_6, cr11_7, cr11_8, cr11_9, cr11_10, cr11_11, cr11_12, cr11_13, cr11_14, ca_30, cs_30, ca_31, cs_31, ca_32, cs_32, ca_33, cs_33, ca_34, cs_34, ca_35, cs_35, ca_36, cs_36, ca_37, cs_37, ca_38, cs_38, ca_39, cs_39, ca_40, cs_40, ca_41, cs_41, ca_42, cs_42, car_20, car_21, car_22, cq11_3, cq11_4, cq3_1, cq0_0, cq0_1, if_true, if_false, Option.bind_some, cb, lt, nI_1, hs_nar2, nh4, upd_at, vau_at, ca_42_0, cs_42_0, c_glue c6 hi, nb]
    have c7 := upC A6 (k + 7) (upd (A6 (k + 7)) i (b2 (decide (0 < i ∧ pG P i = 1)))) (by omega) c6
    generalize hA7 : va_up A6 (k + 7) (upd (A6 (k + 7)) i (b2 (decide (0 < i ∧ pG P i = 1)))) = A7 at c7 ⊢
    have fr : ∀ c, ¬ (k + 1 ≤ c ∧ c ≤ k + 7) → A7 c = A c := fun c hc => by
      rw [← hA7, vau_ne (by omega), ← hA6, vau_ne (by omega), ← hA5, vau_ne (by omega), ← hA4, vau_ne (by omega), ← hA3, vau_ne (by omega), ← hA2, vau_ne (by omega), ← hA1, vau_ne (by omega)]
    have y1 : A7 (k + 1) = upd (A (k + 1)) i (nI (pB P i)) := by
      rw [← hA7, vau_ne (by omega), ← hA6, vau_ne (by omega), ← hA5, vau_ne (by omega), ← hA4, vau_ne (by omega), ← hA3, vau_ne (by omega), ← hA2, vau_ne (by omega), ← hA1, vau_at]
    have y2 : A7 (k + 2) = upd (A (k + 2)) i (iI (2 * pP P i + tLg T (pB P i))) := by
      rw [← hA7, vau_ne (by omega), ← hA6, vau_ne (by omega), ← hA5, vau_ne (by omega), ← hA4, vau_ne (by omega), ← hA3, vau_ne (by omega), ← hA2, vau_at, ← hA1, vau_ne (by omega)]
    have y3 : A7 (k + 3) = upd (A (k + 3)) i (iI (flyL T (pB P i) (tNf T))) := by
      rw [← hA7, vau_ne (by omega), ← hA6, vau_ne (by omega), ← hA5, vau_ne (by omega), ← hA4, vau_ne (by omega), ← hA3, vau_at, ← hA2, vau_ne (by omega), ← hA1, vau_ne (by omega)]
    have y4 : A7 (k + 4) = upd (A (k + 4)) i (iI (2 * (pP P i * flyL T (pB P i) (tNf T) + flyT T (pB P i) (tNf T)))) := by
      rw [← hA7, vau_ne (by omega), ← hA6, vau_ne (by omega), ← hA5, vau_ne (by omega), ← hA4, vau_at, ← hA3, vau_ne (by omega), ← hA2, vau_ne (by omega), ← hA1, vau_ne (by omega)]
    have y5 : A7 (k + 5) = upd (A (k + 5)) i (iI (2 * lf T P i)) := by
      rw [← hA7, vau_ne (by omega), ← hA6, vau_ne (by omega), ← hA5, vau_at, ← hA4, vau_ne (by omega), ← hA3, vau_ne (by omega), ← hA2, vau_ne (by omega), ← hA1, vau_ne (by omega)]
    have y6 : A7 (k + 6) = upd (A (k + 6)) i (iI (2 * rt T P i)) := by
      rw [← hA7, vau_ne (by omega), ← hA6, vau_at, ← hA5, vau_ne (by omega), ← hA4, vau_ne (by omega), ← hA3, vau_ne (by omega), ← hA2, vau_ne (by omega), ← hA1, vau_ne (by omega)]
    have y7 : A7 (k + 7) = upd (A (k + 7)) i (b2 (decide (0 < i ∧ pG P i = 1))) := by
      rw [← hA7, vau_at, ← hA6, vau_ne (by omega), ← hA5, vau_ne (by omega), ← hA4, vau_ne (by omega), ← hA3, vau_ne (by omega), ← hA2, vau_ne (by omega), ← hA1, vau_ne (by omega)]
    obtain ⟨A8, w1, w2, w3⟩ := ih (i + 1) fuel (by omega) (by omega) A7 c7 (fun j hj2 => by
      unfold SightAt
      rw [y1, y2, y3, y4, y5, y6, y7]
      by_cases cj : j = i
      · subst cj
        rw [upd_at, upd_at, upd_at, upd_at, upd_at, upd_at, upd_at]
        refine ⟨rfl, rfl, rfl, rfl, rfl, rfl, ?_⟩
        have hg := hC.2.2.2.2.2.2.2.2 j hi
        by_cases c0 : j = 0
        · rw [if_pos c0, decide_eq_false (by omega)]; rfl
        · rw [if_neg c0]
          rcases hg with hg | hg
          · have hg' : P.2.2.2 j = 0 := hg
            rw [decide_eq_false (by rw [hg]; exact fun z => absurd z.2 (by decide)), hg']; rfl
          · have hg' : P.2.2.2 j = 1 := hg
            rw [decide_eq_true ⟨by omega, hg⟩, hg']; rfl
      · rw [upd_ne cj, upd_ne cj, upd_ne cj, upd_ne cj, upd_ne cj, upd_ne cj, upd_ne cj]
        exact hj j (by omega))
    exact ⟨A8, w1, fun c hc => by rw [w2 c hc, fr c hc], w3⟩
theorem ag_see : Ag_B Rel fX11_see fX12_see := by
  intro σc σm st hst hR
  obtain ⟨F, A, B, Fc, Ac, Bc, rc, t, lv, T, u, w, ps, n7, sp, rfl, rfl, hT, hC⟩ := id hR
  obtain ⟨f1, f2, f3, f4⟩ := hC.2.2.2.2.1
  have hr0 := hC.1.2.1
  unfold fX11_see fX12_see fX1_note
  by_cases c : n7 = 6
  · have c6 : nI n7 = 6 := by rw [c]; rfl
    have c6' : ¬ nI n7 < 6 := by rw [c]; decide
    refine ⟨-1, mkC Fc Ac Bc rc, mkM F A B, ?_, ?_, hR⟩
    · simp -implicitDefEqProofs (disch := first | assumption | omega | decide | exact And.intro (by omega) (by omega)) only [cck_0, cr0_0, cr0_1, cr0_2, cr0_3, cg0_4, cp0_4, cg0_5, cp0_5, cck_1, cg1_0, cp1_0, cr1_1, cr1_2, cr1_3, cg1_4, cp1_4, cg1_5, cp1_5, cr1_6, cr1_7, cck_2, cr2_0, cr2_1, cr2_2, cck_3, cr3_0, cr3_1, cg3_2, cp3_2, cg3_3, cp3_3, cg3_4, cp3_4, cg3_5, cp3_5, cg3_6, cp3_6, cg3_7, cp3_7, cg3_8, cp3_8, cck_4, cg4_0, cp4_0, cg4_1, cp4_1, cr4_2, cr4_3, cr4_4, cr4_5, cck_5, cg5_0, cp5_0, cr5_1, cr5_2, cr5_3, cck_6, cg6_0, cp6_0, cg6_1, cp6_1, cck_7, cg7_0, cp7_0, cg7_1, cp7_1, cr7_2, cr7_3, cr7_4, cr7_5, cr7_6, cr7_7, cr7_8, cck_8, cr8_0, cr8_1, cck_9, cr9_0, cr9_1, cr9_2, cr9_3, cg9_4, cp9_4, cck_10, cg10_0, cp10_0, cr10_1, cr10_2, cr10_3, cr10_4, cg10_5, cp10_5, cr10_6, cr10_7, cr10_8, cg10_9, cp10_9, cg10_10, cp10_10, cr10_11, cr10_12, cr10_13, cr10_14, cck_11, cr11_0, cg11_1, cp11_1, cr11_2, cr11_3, cr11_4, cr11_5, cr11_6, cr11_7, cr11_8, cr11_9, cr11_10, cr11_11, cr11_12, cr11_13, cr11_14, ca_30, cs_30, ca_31, cs_31, ca_32, cs_32, ca_33, cs_33, ca_34, cs_34, ca_35, cs_35, ca_36, cs_36, ca_37, cs_37, ca_38, cs_38, ca_39, cs_39, ca_40, cs_40, ca_41, cs_41, ca_42, cs_42, car_20, car_21, car_22, cq11_3, cq11_4, cq3_1, cq0_0, cq0_1, if_true, if_false, Option.bind_some, cb, lt, nI_1, hs_nar2, nh4, upd_at, vau_at, ca_42_0, cs_42_0, f3, if_neg c6', hr0]
    · simp -implicitDefEqProofs (disch := first | assumption | omega | decide | exact And.intro (by omega) (by omega)) only [mck, mg_0, mp_0, mr_1, mg_2, mp_2, mr_3, mg_4, mp_4, mr_5, mr_6, mr_7, mr_8, mr_9, mg_10, mp_10, mg_11, mp_11, mg_12, mp_12, mg_13, mp_13, mg_14, mp_14, mg_15, mp_15, mg_16, mp_16, mg_17, mp_17, mg_18, mp_18, mg_19, mp_19, mg_20, mp_20, mr_21, mr_22, mr_23, mr_24, mr_25, mr_26, mr_27, mr_28, mr_29, mr_30, mr_31, mr_32, mg_33, mp_33, mr_34, mr_35, mr_36, mr_37, mr_38, mg_39, mp_39, mr_40, mr_41, mr_42, mg_43, mp_43, mr_44, mr_45, mg_46, mp_46, mr_47, mr_48, mg_49, mp_49, mg_50, mp_50, mg_51, mp_51, mr_52, mr_53, mr_54, mg_55, mp_55, mr_56, mr_57, mg_58, mp_58, mg_59, mp_59, mg_60, mp_60, mr_61, mg_62, mp_62, mr_63, mr_64, mr_65, mr_66, mr_67, mr_68, ma_1, ms_1, ma_2, ms_2, ma_3, ms_3, ma_4, ms_4, ma_5, ms_5, ma_6, ms_6, ma_7, ms_7, ma_8, ms_8, ma_9, ms_9, ma_10, ms_10, ma_11, ms_11, ma_12, ms_12, ma_13, ms_13, ma_14, ms_14, ma_15, ms_15, ma_16, ms_16, ma_17, ms_17, ma_18, ms_18, ma_19, ms_19, ma_20, ms_20, ma_21, ms_21, ma_22, ms_22, ma_23, ms_23, ma_24, ms_24, ma_25, ms_25, ma_26, ms_26, ma_27, ms_27, ma_28, ms_28, ma_29, ms_29, ma_30, ms_30, ma_31, ms_31, ma_32, ms_32, ma_33, ms_33, ma_34, ms_34, ma_35, ms_35, ma_36, ms_36, ma_37, ms_37, ma_38, ms_38, ma_39, ms_39, ma_40, ms_40, ma_41, ms_41, ma_42, ms_42, ma_43, ms_43, if_true, if_false, Option.bind_some, cb, lt, nI_1, hs_nar2, nh4, upd_at, vau_at, ma_30_18, ms_30_18, ma_31_18, ms_31_18, ma_28_0, ms_28_0, ma_28_1, ms_28_1, ma_28_2, ms_28_2, ma_28_3, ms_28_3, ma_28_4, ms_28_4, ma_42_0, ms_42_0, ma_42_1, ms_42_1, ma_42_2, ms_42_2, ma_36_0, ms_36_0, f2, if_pos c6]
  · have c6 : ¬ nI n7 = 6 := fun q => c ((nI_eq (a := n7) (b := 6) (by omega) (by decide)).1 q)
    have c6' : nI n7 < 6 := nI_lt (b := 6) (by omega) (by decide)
    have hn : n7 < 6 := by omega
    have t7 := hC.t7
    have hs := hC.crow.2.2.2.1.1
    have sa := SA_of hn
    obtain ⟨u1, u2, u3, u4, u5, u6, u7, u8, u9, u10⟩ := hC.c3
    have h6 := hC.goodP.1
    generalize hFc1 : va_up (va_up Fc (75 + 8 * n7) (upd (Fc (75 + 8 * n7)) 0 st)) (75 + 8 * n7) (upd (upd (Fc (75 + 8 * n7)) 0 st) 1 (nI (ps u).1)) = Fc1
    have g1 : Fc1 (75 + 8 * n7) 1 = nI (ps u).1 := by rw [← hFc1, vau_at, upd_at]
    have g0 : Fc1 (75 + 8 * n7) 0 = st := by rw [← hFc1, vau_at, upd_ne (by decide), upd_at]
    have gF : ∀ c, ¬ c = 75 + 8 * n7 → Fc1 c = Fc c := fun c hc => by rw [← hFc1, vau_ne hc, vau_ne hc]
    have crow1 : CRow Fc1 Ac t T 38 (ps u) := ⟨t7, Or.inl rfl, ⟨hC.2.1.1, hC.2.1.2.2.eq (gF t (by omega)) (fun _ _ _ _ => rfl)⟩, u9.eq (gF 38 (by omega)) rfl rfl rfl, hC.goodP.big⟩
    obtain ⟨A2, w1, w2, w3⟩ := c_take_b (F := Fc1) (B := Bc) (r := rc) (t := t) (T := T) (P := ps u) (k := 75 + 8 * n7) (by omega) sa g1 (ps u).1 0 FU (by omega) (by unfold FU; omega) Ac crow1 (fun j hj => absurd hj (Nat.not_lt_zero j))
    obtain ⟨s0, s1, s2, s3, s4, s5, s6, s7⟩ := sa
    have cls : fX7_take (75 + 8 * n7) t 38 st (mkC Fc Ac Bc rc) = some ((), mkC Fc1 A2 Bc rc) := by
      unfold fX7_take
      rw [if_pos hst]
      simp -implicitDefEqProofs (disch := first | assumption | omega | decide | exact And.intro (by omega) (by omega)) only [cck_0, cr0_0, cr0_1, cr0_2, cr0_3, cg0_4, cp0_4, cg0_5, cp0_5, cck_1, cg1_0, cp1_0, cr1_1, cr1_2, cr1_3, cg1_4, cp1_4, cg1_5, cp1_5, cr1_6, cr1_7, cck_2, cr2_0, cr2_1, cr2_2, cck_3, cr3_0, cr3_1, cg3_2, cp3_2, cg3_3, cp3_3, cg3_4, cp3_4, cg3_5, cp3_5, cg3_6, cp3_6, cg3_7, cp3_7, cg3_8, cp3_8, cck_4, cg4_0, cp4_0, cg4_1, cp4_1, cr4_2, cr4_3, cr4_4, cr4_5, cck_5, cg5_0, cp5_0, cr5_1, cr5_2, cr5_3, cck_6, cg6_0, cp6_0, cg6_1, cp6_1, cck_7, cg7_0, cp7_0, cg7_1, cp7_1, cr7_2, cr7_3, cr7_4, cr7_5, cr7_6, cr7_7, cr7_8, cck_8, cr8_0, cr8_1, cck_9, cr9_0, cr9_1, cr9_2, cr9_3, cg9_4, cp9_4, cck_10, cg10_0, cp10_0, cr10_1, cr10_2, cr10_3, cr10_4, cg10_5, cp10_5, cr10_6, cr10_7, cr10_8, cg10_9, cp10_9, cg10_10, cp10_10, cr10_11, cr10_12, cr10_13, cr10_14, cck_11, cr11_0, cg11_1, cp11_1, cr11_2, cr11_3, cr11_4, cr11_5, cr11_6, cr11_7, cr11_8, cr11_9, cr11_10, cr11_11, cr11_12, cr11_13, cr11_14, ca_30, cs_30, ca_31, cs_31, ca_32, cs_32, ca_33, cs_33, ca_34, cs_34, ca_35, cs_35, ca_36, cs_36, ca_37, cs_37, ca_38, cs_38, ca_39, cs_39, ca_40, cs_40, ca_41, cs_41, ca_42, cs_42, car_20, car_21, car_22, cq11_3, cq11_4, cq3_1, cq0_0, cq0_1, if_true, if_false, Option.bind_some, cb, lt, nI_1, hs_nar2, nh4, upd_at, vau_at, ca_42_0, cs_42_0, hs, vau_ne]
      rw [hFc1]
      exact w1
    have e69 : Fc1 69 0 = nI n7 := by rw [gF 69 (by omega)]; exact f3
    have sub1 : nI (n7 + 1) - 1 = nI n7 := nI_pred _
    have m1 := m_cp7 (F := F) (A := A) (B := B) st f2 hn 20 0 FU (by omega) (by decide)
    rw [cpA_0, vau_id] at m1
    have nst := nh4 hst
    refine ⟨nI n7, mkC (va_up Fc1 69 (upd (Fc1 69) 0 (nI (n7 + 1)))) A2 Bc rc, mkM (upd F 62 (nI (n7 + 1))) (va_up (va_up A 38 (cpA (A 38) (A 30) (20 * n7) 0 20)) 39 (upd (A 39) n7 st)) B, ?_, ?_, rel_of (t := t) (lv := lv) (T := T) (u := u) (w := w) (ps := ps) (n7 := n7 + 1) (sp := fun j => if j = n7 then ps u else sp j) (hT.eq rfl (by rw [vau_ne (by decide), vau_ne (by decide)]) (by rw [vau_ne (by decide), gF 0 (by omega)]) (w2 1 (by omega))) ?_⟩
    · simp -implicitDefEqProofs (disch := first | assumption | omega | decide | exact And.intro (by omega) (by omega)) only [cck_0, cr0_0, cr0_1, cr0_2, cr0_3, cg0_4, cp0_4, cg0_5, cp0_5, cck_1, cg1_0, cp1_0, cr1_1, cr1_2, cr1_3, cg1_4, cp1_4, cg1_5, cp1_5, cr1_6, cr1_7, cck_2, cr2_0, cr2_1, cr2_2, cck_3, cr3_0, cr3_1, cg3_2, cp3_2, cg3_3, cp3_3, cg3_4, cp3_4, cg3_5, cp3_5, cg3_6, cp3_6, cg3_7, cp3_7, cg3_8, cp3_8, cck_4, cg4_0, cp4_0, cg4_1, cp4_1, cr4_2, cr4_3, cr4_4, cr4_5, cck_5, cg5_0, cp5_0, cr5_1, cr5_2, cr5_3, cck_6, cg6_0, cp6_0, cg6_1, cp6_1, cck_7, cg7_0, cp7_0, cg7_1, cp7_1, cr7_2, cr7_3, cr7_4, cr7_5, cr7_6, cr7_7, cr7_8, cck_8, cr8_0, cr8_1, cck_9, cr9_0, cr9_1, cr9_2, cr9_3, cg9_4, cp9_4, cck_10, cg10_0, cp10_0, cr10_1, cr10_2, cr10_3, cr10_4, cg10_5, cp10_5, cr10_6, cr10_7, cr10_8, cg10_9, cp10_9, cg10_10, cp10_10, cr10_11, cr10_12, cr10_13, cr10_14, cck_11, cr11_0, cg11_1, cp11_1, cr11_2, cr11_3, cr11_4, cr11_5, cr11_6, cr11_7, cr11_8, cr11_9, cr11_10, cr11_11, cr11_12, cr11_13, cr11_14, ca_30, cs_30, ca_31, cs_31, ca_32, cs_32, ca_33, cs_33, ca_34, cs_34, ca_35, cs_35, ca_36, cs_36, ca_37, cs_37, ca_38, cs_38, ca_39, cs_39, ca_40, cs_40, ca_41, cs_41, ca_42, cs_42, car_20, car_21, car_22, cq11_3, cq11_4, cq3_1, cq0_0, cq0_1, if_true, if_false, Option.bind_some, cb, lt, nI_1, hs_nar2, nh4, upd_at, vau_at, ca_42_0, cs_42_0, f3, if_pos c6', hr0, cls, e69, sub1]
    · simp -implicitDefEqProofs (disch := first | assumption | omega | decide | exact And.intro (by omega) (by omega)) only [mck, mg_0, mp_0, mr_1, mg_2, mp_2, mr_3, mg_4, mp_4, mr_5, mr_6, mr_7, mr_8, mr_9, mg_10, mp_10, mg_11, mp_11, mg_12, mp_12, mg_13, mp_13, mg_14, mp_14, mg_15, mp_15, mg_16, mp_16, mg_17, mp_17, mg_18, mp_18, mg_19, mp_19, mg_20, mp_20, mr_21, mr_22, mr_23, mr_24, mr_25, mr_26, mr_27, mr_28, mr_29, mr_30, mr_31, mr_32, mg_33, mp_33, mr_34, mr_35, mr_36, mr_37, mr_38, mg_39, mp_39, mr_40, mr_41, mr_42, mg_43, mp_43, mr_44, mr_45, mg_46, mp_46, mr_47, mr_48, mg_49, mp_49, mg_50, mp_50, mg_51, mp_51, mr_52, mr_53, mr_54, mg_55, mp_55, mr_56, mr_57, mg_58, mp_58, mg_59, mp_59, mg_60, mp_60, mr_61, mg_62, mp_62, mr_63, mr_64, mr_65, mr_66, mr_67, mr_68, ma_1, ms_1, ma_2, ms_2, ma_3, ms_3, ma_4, ms_4, ma_5, ms_5, ma_6, ms_6, ma_7, ms_7, ma_8, ms_8, ma_9, ms_9, ma_10, ms_10, ma_11, ms_11, ma_12, ms_12, ma_13, ms_13, ma_14, ms_14, ma_15, ms_15, ma_16, ms_16, ma_17, ms_17, ma_18, ms_18, ma_19, ms_19, ma_20, ms_20, ma_21, ms_21, ma_22, ms_22, ma_23, ms_23, ma_24, ms_24, ma_25, ms_25, ma_26, ms_26, ma_27, ms_27, ma_28, ms_28, ma_29, ms_29, ma_30, ms_30, ma_31, ms_31, ma_32, ms_32, ma_33, ms_33, ma_34, ms_34, ma_35, ms_35, ma_36, ms_36, ma_37, ms_37, ma_38, ms_38, ma_39, ms_39, ma_40, ms_40, ma_41, ms_41, ma_42, ms_42, ma_43, ms_43, if_true, if_false, Option.bind_some, cb, lt, nI_1, hs_nar2, nh4, upd_at, vau_at, ma_30_18, ms_30_18, ma_31_18, ms_31_18, ma_28_0, ms_28_0, ma_28_1, ms_28_1, ma_28_2, ms_28_2, ma_28_3, ms_28_3, ma_28_4, ms_28_4, ma_42_0, ms_42_0, ma_42_1, ms_42_1, ma_42_2, ms_42_2, ma_36_0, ms_36_0, f2, if_neg c6]
      rw [show (0 : Int32) = nI 0 from rfl, m1]
      unfold fX12_see_b45
      simp -implicitDefEqProofs (disch := first | assumption | omega | decide | exact And.intro (by omega) (by omega)) only [mck, mg_0, mp_0, mr_1, mg_2, mp_2, mr_3, mg_4, mp_4, mr_5, mr_6, mr_7, mr_8, mr_9, mg_10, mp_10, mg_11, mp_11, mg_12, mp_12, mg_13, mp_13, mg_14, mp_14, mg_15, mp_15, mg_16, mp_16, mg_17, mp_17, mg_18, mp_18, mg_19, mp_19, mg_20, mp_20, mr_21, mr_22, mr_23, mr_24, mr_25, mr_26, mr_27, mr_28, mr_29, mr_30, mr_31, mr_32, mg_33, mp_33, mr_34, mr_35, mr_36, mr_37, mr_38, mg_39, mp_39, mr_40, mr_41, mr_42, mg_43, mp_43, mr_44, mr_45, mg_46, mp_46, mr_47, mr_48, mg_49, mp_49, mg_50, mp_50, mg_51, mp_51, mr_52, mr_53, mr_54, mg_55, mp_55, mr_56, mr_57, mg_58, mp_58, mg_59, mp_59, mg_60, mp_60, mr_61, mg_62, mp_62, mr_63, mr_64, mr_65, mr_66, mr_67, mr_68, ma_1, ms_1, ma_2, ms_2, ma_3, ms_3, ma_4, ms_4, ma_5, ms_5, ma_6, ms_6, ma_7, ms_7, ma_8, ms_8, ma_9, ms_9, ma_10, ms_10, ma_11, ms_11, ma_12, ms_12, ma_13, ms_13, ma_14, ms_14, ma_15, ms_15, ma_16, ms_16, ma_17, ms_17, ma_18, ms_18, ma_19, ms_19, ma_20, ms_20, ma_21, ms_21, ma_22, ms_22, ma_23, ms_23, ma_24, ms_24, ma_25, ms_25, ma_26, ms_26, ma_27, ms_27, ma_28, ms_28, ma_29, ms_29, ma_30, ms_30, ma_31, ms_31, ma_32, ms_32, ma_33, ms_33, ma_34, ms_34, ma_35, ms_35, ma_36, ms_36, ma_37, ms_37, ma_38, ms_38, ma_39, ms_39, ma_40, ms_40, ma_41, ms_41, ma_42, ms_42, ma_43, ms_43, if_true, if_false, Option.bind_some, cb, lt, nI_1, hs_nar2, nh4, upd_at, vau_at, ma_30_18, ms_30_18, ma_31_18, ms_31_18, ma_28_0, ms_28_0, ma_28_1, ms_28_1, ma_28_2, ms_28_2, ma_28_3, ms_28_3, ma_28_4, ms_28_4, ma_42_0, ms_42_0, ma_42_1, ms_42_1, ma_42_2, ms_42_2, ma_36_0, ms_36_0, f2, nst, vau_ne, sub1]
    · generalize hA2 : va_up (va_up A 38 (cpA (A 38) (A 30) (20 * n7) 0 20)) 39 (upd (A 39) n7 st) = M2
      have k38 : M2 38 = cpA (A 38) (A 30) (20 * n7) 0 20 := by rw [← hA2, vau_ne (by decide), vau_at]
      have k39 : M2 39 = upd (A 39) n7 st := by rw [← hA2, vau_at]
      have kA : ∀ c, ¬ c = 38 → ¬ c = 39 → M2 c = A c := fun c h1 h2 => by rw [← hA2, vau_ne h2, vau_ne h1]
      have gF2 : ∀ c, ¬ c = 75 + 8 * n7 → ¬ c = 69 → va_up Fc1 69 (upd (Fc1 69) 0 (nI (n7 + 1))) c = Fc c := fun c h1 h2 => by rw [vau_ne h2, gF c h1]
      obtain ⟨⟨a1, a2, a3, a4, a5⟩, ⟨b1, b2', b3⟩, _, d1, _, y1, y2⟩ := hC
      refine ⟨⟨a1, a2, a3, a4, by rw [gF2 37 (by omega) (by omega)]; exact a5⟩, ⟨b1, ?_, b3.eq (gF2 t (by omega) (by omega)) (fun c h1 h2 h3 => w2 c (by omega))⟩, ⟨u1, u2, u3, by rw [gF2 49 (by omega) (by omega)]; exact u4, by rw [gF2 49 (by omega) (by omega)]; exact u5, u6, fun j hj => (u7 j hj).eq (kA 35 (by decide) (by decide)), u8.eq (kA 30 (by decide) (by decide)), u9.eq (gF2 38 (by omega) (by omega)) (w2 _ (by omega)) (w2 _ (by omega)) (w2 _ (by omega)), ?_⟩, ?_, ⟨by omega, rfl, by rw [vau_at, upd_at], fun j hj => ?_⟩, y1, y2⟩
      · have q : ∀ c, (9 ≤ c ∧ c ≤ 16) ∨ (18 ≤ c ∧ c ≤ 26) → M2 c = A c := fun c hc => kA c (by omega) (by omega)
        obtain ⟨h1, h2, h3, h4, h5, h6⟩ := b2'
        unfold MText
        rw [q 9 (by omega), q 10 (by omega), q 11 (by omega), q 12 (by omega), q 13 (by omega), q 14 (by omega), q 15 (by omega), q 16 (by omega), q 18 (by omega), q 19 (by omega)]
        refine ⟨h1, h2, h3, h4, h5, fun b hb => ?_⟩
        have h7 := h6 b hb
        cases hq : tLw T b with
        | none => rw [hq] at h7; exact h7
        | some f => rw [hq] at h7; exact LawM.eq h7 (fun c g1 g2 => q c (by omega))
      · intro j hj
        have := u10 j hj
        rw [w2 50 (by omega), w2 51 (by omega), w2 52 (by omega), w2 53 (by omega)]
        exact this
      · intro s2 hs2
        obtain ⟨z1, z2, z3⟩ := d1 s2 hs2
        rw [kA 42 (by decide) (by decide), w2 56 (by omega)]
        refine ⟨z1, z2, fun z => ?_⟩
        obtain ⟨P, q1, q2, q3⟩ := z3 z
        exact ⟨P, q1, q2.eq (kA 43 (by decide) (by decide)), q3.eq (gF2 _ (by omega) (by omega)) (w2 _ (by omega)) (w2 _ (by omega)) (w2 _ (by omega))⟩
      · by_cases cj : j = n7
        · subst cj
          simp only [if_true]
          rw [k39, upd_at]
          refine ⟨u6 u (Nat.le_refl _), ?_, by rw [vau_ne (by omega)]; exact g0, hst, by rw [vau_ne (by omega)]; exact g1, w3⟩
          unfold MPile
          rw [k38]
          have q : ∀ k, k < 20 → cpA (A 38) (A 30) (20 * j) 0 20 (20 * j + k) = A 30 (0 + k) := fun k hk => cpA_in hk
          refine ⟨by rw [q 18 (by omega)]; exact u8.1, fun i hi => ?_⟩
          rw [q i (by omega), Nat.add_assoc, q (6 + i) (by omega), Nat.add_assoc, q (12 + i) (by omega)]
          have := u8.2 i hi
          simpa only [Nat.add_assoc] using this
        · obtain ⟨z1, z2, z3⟩ := f4 j (by omega)
          simp only [if_neg cj]
          rw [k39, upd_ne cj]
          refine ⟨z1, ?_, z3.eq (gF2 _ (by omega) (by omega)) (fun c q1 q2 => w2 c (by omega))⟩
          unfold MPile
          rw [k38]
          have q : ∀ k, k < 20 → cpA (A 38) (A 30) (20 * n7) 0 20 (20 * j + k) = A 38 (20 * j + k) := fun k hk => cpA_out (by omega)
          have h6 := z1.1
          refine ⟨by rw [q 18 (by omega)]; exact z2.1, fun i hi => ?_⟩
          rw [q i (by omega), Nat.add_assoc, q (6 + i) (by omega), Nat.add_assoc, q (12 + i) (by omega)]
          have := z2.2 i hi
          simpa only [Nat.add_assoc] using this
