/-! ===== the model's loads ===== -/
theorem m1_iI : (-1 : Int32) = iI (-1) := by decide
theorem two_iI (a : Int) : (2 : Int32) * iI a = iI (2 * a) := iI_mul 2 a
theorem two_jJ (a : Int) : (2 : Int64) * jJ a = jJ (2 * a) := jJ_mul 2 a
theorem nI_jJ {n : Nat} (h : n < 2 ^ 31) : (nI n).toInt64 = jJ n := iI_jJ (x := (n : Int)) ⟨by omega, by omega⟩
theorem m_flies {F : Nat → Int32} {A : Nat → Nat → Int32} {B : Nat → Nat → Int64} {lv : Nat} {T : TD} {tr : Nat → Int} {P : AP} (h : MRow F A lv T tr P) {i : Nat} (hi : i < P.1) (K : Nat → Int64 → Int64 → Int32 → Sto → Option (Unit × Sto)) (l s : Int) : ∀ k m fuel, m + k = tNf T → k < fuel →
    fX12_fillsLoads_b64 K fuel 0 (jJ (l + flyL T (pB P i) m)) (jJ (s + 2 * (pP P i * flyL T (pB P i) m + flyT T (pB P i) m))) (nI i) (nI m) (mkM F A B) = fX12_fillsLoads_b162 K 0 (jJ (l + flyL T (pB P i) (tNf T))) (jJ (s + 2 * (pP P i * flyL T (pB P i) (tNf T) + flyT T (pB P i) (tNf T)))) (nI i) (mkM F A B) := by
  obtain ⟨a1, a2, a3, a4, a5, a6, a7, a8, a9, a10, a11, a12⟩ := h.at hi
  have h1 := h.1.1
  have h2 := h.1.2
  have h3 := h.2.1.1
  have h4 := h.2.1.2
  have nf := h3.2.2.2.1
  have e13 := h4.2.2.2.1
  intro k
  induction k with
  | zero =>
    intro m fuel hm hf
    obtain ⟨fuel, rfl⟩ : ∃ q, fuel = q + 1 := ⟨fuel - 1, by omega⟩
    have : m = tNf T := by omega
    subst this
    rw [fX12_fillsLoads_b64]
    simp (disch := first | assumption | omega | rfl | exact And.intro (by omega) (by omega)) only [mck, mg_0, mp_0, mr_1, mg_2, mp_2, mr_3, mg_4, mp_4, mr_5, mr_6, mr_7, mr_8, mr_9, mg_10, mp_10, mg_11, mp_11, mg_12, mp_12, mg_13, mp_13, mg_14, mp_14, mg_15, mp_15, mg_16, mp_16, mg_17, mp_17, mg_18, mp_18, mg_19, mp_19, mg_20, mp_20, mr_21, mr_22, mr_23, mr_24, mr_25, mr_26, mr_27, mr_28, mr_29, mr_30, mr_31, mr_32, mg_33, mp_33, mr_34, mr_35, mr_36, mr_37, mr_38, mg_39, mp_39, mr_40, mr_41, mr_42, mg_43, mp_43, mr_44, mr_45, mg_46, mp_46, mr_47, mr_48, mg_49, mp_49, mg_50, mp_50, mg_51, mp_51, mr_52, mr_53, mr_54, mg_55, mp_55, mr_56, mr_57, mg_58, mp_58, mg_59, mp_59, mg_60, mp_60, mr_61, mg_62, mp_62, mr_63, mr_64, mr_65, mr_66, mr_67, mr_68, ma_1, ms_1, ma_2, ms_2, ma_3, ms_3, ma_4, ms_4, ma_5, ms_5, ma_6, ms_6, ma_7, ms_7, ma_8, ms_8, ma_9, ms_9, ma_10, ms_10, ma_11, ms_11, ma_12, ms_12, ma_13, ms_13, ma_14, ms_14, ma_15, ms_15, ma_16, ms_16, ma_17, ms_17, ma_18, ms_18, ma_19, ms_19, ma_20, ms_20, ma_21, ms_21, ma_22, ms_22, ma_23, ms_23, ma_24, ms_24, ma_25, ms_25, ma_26, ms_26, ma_27, ms_27, ma_28, ms_28, ma_29, ms_29, ma_30, ms_30, ma_31, ms_31, ma_32, ms_32, ma_33, ms_33, ma_34, ms_34, ma_35, ms_35, ma_36, ms_36, ma_37, ms_37, ma_38, ms_38, ma_39, ms_39, ma_40, ms_40, ma_41, ms_41, ma_42, ms_42, ma_43, ms_43, Option.bind_some, cb, lt, nI_1, hs_nar2, nh4, upd_at, vau_at, ma_30_18, ms_30_18, ma_31_18, ms_31_18, ma_28_0, ms_28_0, ma_28_1, ms_28_1, ma_28_2, ms_28_2, ma_28_3, ms_28_3, ma_28_4, ms_28_4, ma_42_0, ms_42_0, ma_42_1, ms_42_1, ma_42_2, ms_42_2, ma_36_0, ms_36_0, h1, e13]
    rw [if_pos (nI_le (Nat.le_refl _) (by omega))]
  | succ k ih =>
    intro m fuel hm hf
    obtain ⟨fuel, rfl⟩ : ∃ q, fuel = q + 1 := ⟨fuel - 1, by omega⟩
    have hm2 : m < tNf T := by omega
    have ef := h4.2.2.2.2.1 m hm2
    have eg := h3.2.2.2.2 m hm2
    have eb : tFb T m < 6 := by have := h3.1; omega
    rw [fX12_fillsLoads_b64]
    simp (disch := first | assumption | omega | rfl | exact And.intro (by omega) (by omega)) only [mck, mg_0, mp_0, mr_1, mg_2, mp_2, mr_3, mg_4, mp_4, mr_5, mr_6, mr_7, mr_8, mr_9, mg_10, mp_10, mg_11, mp_11, mg_12, mp_12, mg_13, mp_13, mg_14, mp_14, mg_15, mp_15, mg_16, mp_16, mg_17, mp_17, mg_18, mp_18, mg_19, mp_19, mg_20, mp_20, mr_21, mr_22, mr_23, mr_24, mr_25, mr_26, mr_27, mr_28, mr_29, mr_30, mr_31, mr_32, mg_33, mp_33, mr_34, mr_35, mr_36, mr_37, mr_38, mg_39, mp_39, mr_40, mr_41, mr_42, mg_43, mp_43, mr_44, mr_45, mg_46, mp_46, mr_47, mr_48, mg_49, mp_49, mg_50, mp_50, mg_51, mp_51, mr_52, mr_53, mr_54, mg_55, mp_55, mr_56, mr_57, mg_58, mp_58, mg_59, mp_59, mg_60, mp_60, mr_61, mg_62, mp_62, mr_63, mr_64, mr_65, mr_66, mr_67, mr_68, ma_1, ms_1, ma_2, ms_2, ma_3, ms_3, ma_4, ms_4, ma_5, ms_5, ma_6, ms_6, ma_7, ms_7, ma_8, ms_8, ma_9, ms_9, ma_10, ms_10, ma_11, ms_11, ma_12, ms_12, ma_13, ms_13, ma_14, ms_14, ma_15, ms_15, ma_16, ms_16, ma_17, ms_17, ma_18, ms_18, ma_19, ms_19, ma_20, ms_20, ma_21, ms_21, ma_22, ms_22, ma_23, ms_23, ma_24, ms_24, ma_25, ms_25, ma_26, ms_26, ma_27, ms_27, ma_28, ms_28, ma_29, ms_29, ma_30, ms_30, ma_31, ms_31, ma_32, ms_32, ma_33, ms_33, ma_34, ms_34, ma_35, ms_35, ma_36, ms_36, ma_37, ms_37, ma_38, ms_38, ma_39, ms_39, ma_40, ms_40, ma_41, ms_41, ma_42, ms_42, ma_43, ms_43, Option.bind_some, cb, lt, nI_1, hs_nar2, nh4, upd_at, vau_at, ma_30_18, ms_30_18, ma_31_18, ms_31_18, ma_28_0, ms_28_0, ma_28_1, ms_28_1, ma_28_2, ms_28_2, ma_28_3, ms_28_3, ma_28_4, ms_28_4, ma_42_0, ms_42_0, ma_42_1, ms_42_1, ma_42_2, ms_42_2, ma_36_0, ms_36_0, h1, e13]
    rw [if_neg (nI_ge (by omega) (by omega))]
    simp (disch := first | assumption | omega | rfl | exact And.intro (by omega) (by omega)) only [mck, mg_0, mp_0, mr_1, mg_2, mp_2, mr_3, mg_4, mp_4, mr_5, mr_6, mr_7, mr_8, mr_9, mg_10, mp_10, mg_11, mp_11, mg_12, mp_12, mg_13, mp_13, mg_14, mp_14, mg_15, mp_15, mg_16, mp_16, mg_17, mp_17, mg_18, mp_18, mg_19, mp_19, mg_20, mp_20, mr_21, mr_22, mr_23, mr_24, mr_25, mr_26, mr_27, mr_28, mr_29, mr_30, mr_31, mr_32, mg_33, mp_33, mr_34, mr_35, mr_36, mr_37, mr_38, mg_39, mp_39, mr_40, mr_41, mr_42, mg_43, mp_43, mr_44, mr_45, mg_46, mp_46, mr_47, mr_48, mg_49, mp_49, mg_50, mp_50, mg_51, mp_51, mr_52, mr_53, mr_54, mg_55, mp_55, mr_56, mr_57, mg_58, mp_58, mg_59, mp_59, mg_60, mp_60, mr_61, mg_62, mp_62, mr_63, mr_64, mr_65, mr_66, mr_67, mr_68, ma_1, ms_1, ma_2, ms_2, ma_3, ms_3, ma_4, ms_4, ma_5, ms_5, ma_6, ms_6, ma_7, ms_7, ma_8, ms_8, ma_9, ms_9, ma_10, ms_10, ma_11, ms_11, ma_12, ms_12, ma_13, ms_13, ma_14, ms_14, ma_15, ms_15, ma_16, ms_16, ma_17, ms_17, ma_18, ms_18, ma_19, ms_19, ma_20, ms_20, ma_21, ms_21, ma_22, ms_22, ma_23, ms_23, ma_24, ms_24, ma_25, ms_25, ma_26, ms_26, ma_27, ms_27, ma_28, ms_28, ma_29, ms_29, ma_30, ms_30, ma_31, ms_31, ma_32, ms_32, ma_33, ms_33, ma_34, ms_34, ma_35, ms_35, ma_36, ms_36, ma_37, ms_37, ma_38, ms_38, ma_39, ms_39, ma_40, ms_40, ma_41, ms_41, ma_42, ms_42, ma_43, ms_43, Option.bind_some, cb, lt, nI_1, hs_nar2, nh4, upd_at, vau_at, ma_30_18, ms_30_18, ma_31_18, ms_31_18, ma_28_0, ms_28_0, ma_28_1, ms_28_1, ma_28_2, ms_28_2, ma_28_3, ms_28_3, ma_28_4, ms_28_4, ma_42_0, ms_42_0, ma_42_1, ms_42_1, ma_42_2, ms_42_2, ma_36_0, ms_36_0, h1, m_mul6, nI_add, ef.2.1, a6]
    have ee : (nI (tFb T m) = nI (pB P i)) ↔ tFb T m = pB P i := nI_eq (by omega) (by omega)
    have ih2 := ih (m + 1) fuel (by omega) (by omega)
    by_cases c1 : tFb T m = pB P i
    · rw [if_pos (ee.2 c1)]
      simp (disch := first | assumption | omega | rfl | exact And.intro (by omega) (by omega)) only [mck, mg_0, mp_0, mr_1, mg_2, mp_2, mr_3, mg_4, mp_4, mr_5, mr_6, mr_7, mr_8, mr_9, mg_10, mp_10, mg_11, mp_11, mg_12, mp_12, mg_13, mp_13, mg_14, mp_14, mg_15, mp_15, mg_16, mp_16, mg_17, mp_17, mg_18, mp_18, mg_19, mp_19, mg_20, mp_20, mr_21, mr_22, mr_23, mr_24, mr_25, mr_26, mr_27, mr_28, mr_29, mr_30, mr_31, mr_32, mg_33, mp_33, mr_34, mr_35, mr_36, mr_37, mr_38, mg_39, mp_39, mr_40, mr_41, mr_42, mg_43, mp_43, mr_44, mr_45, mg_46, mp_46, mr_47, mr_48, mg_49, mp_49, mg_50, mp_50, mg_51, mp_51, mr_52, mr_53, mr_54, mg_55, mp_55, mr_56, mr_57, mg_58, mp_58, mg_59, mp_59, mg_60, mp_60, mr_61, mg_62, mp_62, mr_63, mr_64, mr_65, mr_66, mr_67, mr_68, ma_1, ms_1, ma_2, ms_2, ma_3, ms_3, ma_4, ms_4, ma_5, ms_5, ma_6, ms_6, ma_7, ms_7, ma_8, ms_8, ma_9, ms_9, ma_10, ms_10, ma_11, ms_11, ma_12, ms_12, ma_13, ms_13, ma_14, ms_14, ma_15, ms_15, ma_16, ms_16, ma_17, ms_17, ma_18, ms_18, ma_19, ms_19, ma_20, ms_20, ma_21, ms_21, ma_22, ms_22, ma_23, ms_23, ma_24, ms_24, ma_25, ms_25, ma_26, ms_26, ma_27, ms_27, ma_28, ms_28, ma_29, ms_29, ma_30, ms_30, ma_31, ms_31, ma_32, ms_32, ma_33, ms_33, ma_34, ms_34, ma_35, ms_35, ma_36, ms_36, ma_37, ms_37, ma_38, ms_38, ma_39, ms_39, ma_40, ms_40, ma_41, ms_41, ma_42, ms_42, ma_43, ms_43, Option.bind_some, cb, lt, nI_1, hs_nar2, nh4, upd_at, vau_at, ma_30_18, ms_30_18, ma_31_18, ms_31_18, ma_28_0, ms_28_0, ma_28_1, ms_28_1, ma_28_2, ms_28_2, ma_28_3, ms_28_3, ma_28_4, ms_28_4, ma_42_0, ms_42_0, ma_42_1, ms_42_1, ma_42_2, ms_42_2, ma_36_0, ms_36_0, ef.1, ef.2.2, a7, m_add6, fX12_fillsLoads_b156, iI_add, iI_jJ, two_jJ, jJ_mul, jJ_add]
      simp only [flyL, flyT, if_pos c1] at ih2
      rw [← ih2]
      congr 2
      · omega
      · simp only [Int.mul_add, Int.mul_assoc]
        rw [Int.mul_comm (pP P i) (tFw T m)]
        omega
    · rw [if_neg (fun q => c1 (ee.1 q))]
      simp (disch := first | assumption | omega | rfl | exact And.intro (by omega) (by omega)) only [mck, mg_0, mp_0, mr_1, mg_2, mp_2, mr_3, mg_4, mp_4, mr_5, mr_6, mr_7, mr_8, mr_9, mg_10, mp_10, mg_11, mp_11, mg_12, mp_12, mg_13, mp_13, mg_14, mp_14, mg_15, mp_15, mg_16, mp_16, mg_17, mp_17, mg_18, mp_18, mg_19, mp_19, mg_20, mp_20, mr_21, mr_22, mr_23, mr_24, mr_25, mr_26, mr_27, mr_28, mr_29, mr_30, mr_31, mr_32, mg_33, mp_33, mr_34, mr_35, mr_36, mr_37, mr_38, mg_39, mp_39, mr_40, mr_41, mr_42, mg_43, mp_43, mr_44, mr_45, mg_46, mp_46, mr_47, mr_48, mg_49, mp_49, mg_50, mp_50, mg_51, mp_51, mr_52, mr_53, mr_54, mg_55, mp_55, mr_56, mr_57, mg_58, mp_58, mg_59, mp_59, mg_60, mp_60, mr_61, mg_62, mp_62, mr_63, mr_64, mr_65, mr_66, mr_67, mr_68, ma_1, ms_1, ma_2, ms_2, ma_3, ms_3, ma_4, ms_4, ma_5, ms_5, ma_6, ms_6, ma_7, ms_7, ma_8, ms_8, ma_9, ms_9, ma_10, ms_10, ma_11, ms_11, ma_12, ms_12, ma_13, ms_13, ma_14, ms_14, ma_15, ms_15, ma_16, ms_16, ma_17, ms_17, ma_18, ms_18, ma_19, ms_19, ma_20, ms_20, ma_21, ms_21, ma_22, ms_22, ma_23, ms_23, ma_24, ms_24, ma_25, ms_25, ma_26, ms_26, ma_27, ms_27, ma_28, ms_28, ma_29, ms_29, ma_30, ms_30, ma_31, ms_31, ma_32, ms_32, ma_33, ms_33, ma_34, ms_34, ma_35, ms_35, ma_36, ms_36, ma_37, ms_37, ma_38, ms_38, ma_39, ms_39, ma_40, ms_40, ma_41, ms_41, ma_42, ms_42, ma_43, ms_43, Option.bind_some, cb, lt, nI_1, hs_nar2, nh4, upd_at, vau_at, ma_30_18, ms_30_18, ma_31_18, ms_31_18, ma_28_0, ms_28_0, ma_28_1, ms_28_1, ma_28_2, ms_28_2, ma_28_3, ms_28_3, ma_28_4, ms_28_4, ma_42_0, ms_42_0, ma_42_1, ms_42_1, ma_42_2, ms_42_2, ma_36_0, ms_36_0, fX12_fillsLoads_b156]
      simp only [flyL, flyT, if_neg c1, Int.add_zero] at ih2
      exact ih2
def More (F : Nat → Int32) (mb mw ma : Int) : Prop := (F 50 = iI mb ∧ F 49 = iI mw ∧ F 51 = iI ma) ∧ in32 mb ∧ (0 ≤ mw ∧ mw ≤ 9999) ∧ (0 ≤ mb → 0 ≤ ma ∧ ma ≤ 99)
theorem More.ms {F F' : Nat → Int32} {A A' : Nat → Nat → Int32} {B B' : Nat → Nat → Int64} {mb mw ma : Int} (h : More F mb mw ma) (g : MS F F' A A' B B') : More F' mb mw ma :=
  ⟨⟨(g.1 50 (by decide)).trans h.1.1, (g.1 49 (by decide)).trans h.1.2.1, (g.1 51 (by decide)).trans h.1.2.2⟩, h.2⟩
theorem m_longAt {F : Nat → Int32} {A : Nat → Nat → Int32} {B : Nat → Nat → Int64} {lv : Nat} {T : TD} {tr : Nat → Int} {P : AP} (h : MRow F A lv T tr P) {i : Nat} (hi : i < P.1) : fX12_longAt 0 (nI i) (mkM F A B) = some (iI (tLg T (pB P i)), mkM F A B) := by
  obtain ⟨a1, a2, a3, a4, a5, a6, a7, a8, a9, a10, a11, a12⟩ := h.at hi
  have h1 := h.1.1
  unfold fX12_longAt
  simp (disch := first | assumption | omega | rfl | exact And.intro (by omega) (by omega)) only [mck, mg_0, mp_0, mr_1, mg_2, mp_2, mr_3, mg_4, mp_4, mr_5, mr_6, mr_7, mr_8, mr_9, mg_10, mp_10, mg_11, mp_11, mg_12, mp_12, mg_13, mp_13, mg_14, mp_14, mg_15, mp_15, mg_16, mp_16, mg_17, mp_17, mg_18, mp_18, mg_19, mp_19, mg_20, mp_20, mr_21, mr_22, mr_23, mr_24, mr_25, mr_26, mr_27, mr_28, mr_29, mr_30, mr_31, mr_32, mg_33, mp_33, mr_34, mr_35, mr_36, mr_37, mr_38, mg_39, mp_39, mr_40, mr_41, mr_42, mg_43, mp_43, mr_44, mr_45, mg_46, mp_46, mr_47, mr_48, mg_49, mp_49, mg_50, mp_50, mg_51, mp_51, mr_52, mr_53, mr_54, mg_55, mp_55, mr_56, mr_57, mg_58, mp_58, mg_59, mp_59, mg_60, mp_60, mr_61, mg_62, mp_62, mr_63, mr_64, mr_65, mr_66, mr_67, mr_68, ma_1, ms_1, ma_2, ms_2, ma_3, ms_3, ma_4, ms_4, ma_5, ms_5, ma_6, ms_6, ma_7, ms_7, ma_8, ms_8, ma_9, ms_9, ma_10, ms_10, ma_11, ms_11, ma_12, ms_12, ma_13, ms_13, ma_14, ms_14, ma_15, ms_15, ma_16, ms_16, ma_17, ms_17, ma_18, ms_18, ma_19, ms_19, ma_20, ms_20, ma_21, ms_21, ma_22, ms_22, ma_23, ms_23, ma_24, ms_24, ma_25, ms_25, ma_26, ms_26, ma_27, ms_27, ma_28, ms_28, ma_29, ms_29, ma_30, ms_30, ma_31, ms_31, ma_32, ms_32, ma_33, ms_33, ma_34, ms_34, ma_35, ms_35, ma_36, ms_36, ma_37, ms_37, ma_38, ms_38, ma_39, ms_39, ma_40, ms_40, ma_41, ms_41, ma_42, ms_42, ma_43, ms_43, Option.bind_some, cb, lt, nI_1, hs_nar2, nh4, upd_at, vau_at, ma_30_18, ms_30_18, ma_31_18, ms_31_18, ma_28_0, ms_28_0, ma_28_1, ms_28_1, ma_28_2, ms_28_2, ma_28_3, ms_28_3, ma_28_4, ms_28_4, ma_42_0, ms_42_0, ma_42_1, ms_42_1, ma_42_2, ms_42_2, ma_36_0, ms_36_0, h1, a6, m_mul6, nI_add, a10]
theorem jJ_0 : (0 : Int64) = jJ 0 := rfl
theorem updL_at (f : Nat → Int64) (k : Nat) (x : Int64) : vp_updL f k x k = x := by simp [vp_updL]
theorem updL_ne {f : Nat → Int64} {k j : Nat} {x : Int64} (h : ¬ j = k) : vp_updL f k x j = f j := by simp [vp_updL, h]
theorem m_fills {lv : Nat} {T : TD} {tr : Nat → Int} {P : AP} {mb mw ma : Int} : ∀ k fuel, k ≤ P.1 → k < fuel → ∀ {F : Nat → Int32} {A : Nat → Nat → Int32} {B : Nat → Nat → Int64}, MRow F A lv T tr P → More F mb mw ma →
    (∀ j, k ≤ j → j < P.1 → B 33 j = jJ (sumD (gl T tr mb mw P) P.1 (P.1 - j)) ∧ B 34 j = jJ (sumD (gm T tr mb mw ma P) P.1 (P.1 - j))) →
    ∃ F' A' B', fX12_fillsLoads_b15 fuel 0 (jJ (sumD (gl T tr mb mw P) P.1 (P.1 - k))) (jJ (sumD (gm T tr mb mw ma P) P.1 (P.1 - k))) (iI ((k : Int) - 1)) (mkM F A B) = some ((), mkM F' A' B') ∧ MS F F' A A' B B' ∧ ∀ j, j < P.1 → B' 33 j = jJ (sumD (gl T tr mb mw P) P.1 (P.1 - j)) ∧ B' 34 j = jJ (sumD (gm T tr mb mw ma P) P.1 (P.1 - j)) := by
  intro k
  induction k with
  | zero =>
    intro fuel hk hf F A B hR hM hB
    obtain ⟨fuel, rfl⟩ : ∃ q, fuel = q + 1 := ⟨fuel - 1, by omega⟩
    rw [fX12_fillsLoads_b15, if_pos (by rw [iI_lt0 ⟨by omega, by omega⟩]; omega)]
    exact ⟨_, _, _, rfl, MS.rf, fun j hj => hB j (by omega) hj⟩
  | succ k ih =>
    intro fuel hk hf F A B hR hM hB
    obtain ⟨fuel, rfl⟩ : ∃ q, fuel = q + 1 := ⟨fuel - 1, by omega⟩
    have hk6 := hR.2.2.1.2.1
    rw [fX12_fillsLoads_b15, if_neg (by rw [iI_lt0 ⟨by omega, by omega⟩]; omega)]
    have ek : iI (((k + 1 : Nat) : Int) - 1) = nI k := by rw [iI_nI]; congr 1; omega
    rw [ek]
    obtain ⟨F1, A1, w1, w2⟩ := m_weighs B hR (i := k) (by omega)
    rw [w1]
    have hR1 := hR.ms w2
    have hM1 := hM.ms w2
    obtain ⟨a1, a2, a3, a4, a5, a6, a7, a8, a9, a10, a11, a12⟩ := hR1.at (i := k) (by omega)
    have hw := wg_b hR.2.1.1 hR.2.2.2.1 a3
    have hfl := flyL_b hR.2.1.1 (pB P k) _ (Nat.le_refl _)
    have hft := flyT_b hR.2.1.1 (pB P k) _ (Nat.le_refl _)
    simp (disch := first | assumption | omega | rfl | exact And.intro (by omega) (by omega)) only [mck, mg_0, mp_0, mr_1, mg_2, mp_2, mr_3, mg_4, mp_4, mr_5, mr_6, mr_7, mr_8, mr_9, mg_10, mp_10, mg_11, mp_11, mg_12, mp_12, mg_13, mp_13, mg_14, mp_14, mg_15, mp_15, mg_16, mp_16, mg_17, mp_17, mg_18, mp_18, mg_19, mp_19, mg_20, mp_20, mr_21, mr_22, mr_23, mr_24, mr_25, mr_26, mr_27, mr_28, mr_29, mr_30, mr_31, mr_32, mg_33, mp_33, mr_34, mr_35, mr_36, mr_37, mr_38, mg_39, mp_39, mr_40, mr_41, mr_42, mg_43, mp_43, mr_44, mr_45, mg_46, mp_46, mr_47, mr_48, mg_49, mp_49, mg_50, mp_50, mg_51, mp_51, mr_52, mr_53, mr_54, mg_55, mp_55, mr_56, mr_57, mg_58, mp_58, mg_59, mp_59, mg_60, mp_60, mr_61, mg_62, mp_62, mr_63, mr_64, mr_65, mr_66, mr_67, mr_68, ma_1, ms_1, ma_2, ms_2, ma_3, ms_3, ma_4, ms_4, ma_5, ms_5, ma_6, ms_6, ma_7, ms_7, ma_8, ms_8, ma_9, ms_9, ma_10, ms_10, ma_11, ms_11, ma_12, ms_12, ma_13, ms_13, ma_14, ms_14, ma_15, ms_15, ma_16, ms_16, ma_17, ms_17, ma_18, ms_18, ma_19, ms_19, ma_20, ms_20, ma_21, ms_21, ma_22, ms_22, ma_23, ms_23, ma_24, ms_24, ma_25, ms_25, ma_26, ms_26, ma_27, ms_27, ma_28, ms_28, ma_29, ms_29, ma_30, ms_30, ma_31, ms_31, ma_32, ms_32, ma_33, ms_33, ma_34, ms_34, ma_35, ms_35, ma_36, ms_36, ma_37, ms_37, ma_38, ms_38, ma_39, ms_39, ma_40, ms_40, ma_41, ms_41, ma_42, ms_42, ma_43, ms_43, Option.bind_some, cb, lt, nI_1, hs_nar2, nh4, upd_at, vau_at, ma_30_18, ms_30_18, ma_31_18, ms_31_18, ma_28_0, ms_28_0, ma_28_1, ms_28_1, ma_28_2, ms_28_2, ma_28_3, ms_28_3, ma_28_4, ms_28_4, ma_42_0, ms_42_0, ma_42_1, ms_42_1, ma_42_2, ms_42_2, ma_36_0, ms_36_0, m_add6, a7, m_longAt hR1 (show k < P.1 by omega), two_iI, iI_add, iI_jJ, jJ_mul, jJ_add]
    have ef := m_flies (B := B) hR1 (show k < P.1 by omega) (fX12_fillsLoads_b15 fuel) (sumD (gl T tr mb mw P) P.1 (P.1 - (k + 1)) + wg T tr P k) (sumD (gm T tr mb mw ma P) P.1 (P.1 - (k + 1)) + wg T tr P k * (2 * pP P k + tLg T (pB P k))) (tNf T) 0 FU (by omega) (by have := hR.2.1.1.2.2.2.1; unfold FU; omega)
    simp only [flyL, flyT, Int.mul_zero, Int.add_zero] at ef
    rw [show (0 : Int32) = nI 0 from rfl, ef]
    have s1 : sumD (gl T tr mb mw P) P.1 (P.1 - k) = sumD (gl T tr mb mw P) P.1 (P.1 - (k + 1)) + gl T tr mb mw P k := by
      rw [show P.1 - k = (P.1 - (k + 1)) + 1 by omega, sumD, show P.1 - (P.1 - (k + 1) + 1) = k by omega]
    have s2 : sumD (gm T tr mb mw ma P) P.1 (P.1 - k) = sumD (gm T tr mb mw ma P) P.1 (P.1 - (k + 1)) + gm T tr mb mw ma P k := by
      rw [show P.1 - k = (P.1 - (k + 1)) + 1 by omega, sumD, show P.1 - (P.1 - (k + 1) + 1) = k by omega]
    have hgo : fX12_fillsLoads_b162 (fX12_fillsLoads_b15 fuel) 0 (jJ (sumD (gl T tr mb mw P) P.1 (P.1 - (k + 1)) + wg T tr P k + flyL T (pB P k) (tNf T))) (jJ (sumD (gm T tr mb mw ma P) P.1 (P.1 - (k + 1)) + wg T tr P k * (2 * pP P k + tLg T (pB P k)) + 2 * (pP P k * flyL T (pB P k) (tNf T) + flyT T (pB P k) (tNf T)))) (nI k) (mkM F1 A1 B) = fX12_fillsLoads_b213 (fX12_fillsLoads_b15 fuel) 0 (jJ (sumD (gl T tr mb mw P) P.1 (P.1 - k))) (jJ (sumD (gm T tr mb mw ma P) P.1 (P.1 - k))) (nI k) (mkM F1 A1 B) := by
      obtain ⟨⟨m1, m2, m3⟩, m4, m5, m6⟩ := hM1
      unfold fX12_fillsLoads_b162
      simp (disch := first | assumption | omega | rfl | exact And.intro (by omega) (by omega)) only [mck, mg_0, mp_0, mr_1, mg_2, mp_2, mr_3, mg_4, mp_4, mr_5, mr_6, mr_7, mr_8, mr_9, mg_10, mp_10, mg_11, mp_11, mg_12, mp_12, mg_13, mp_13, mg_14, mp_14, mg_15, mp_15, mg_16, mp_16, mg_17, mp_17, mg_18, mp_18, mg_19, mp_19, mg_20, mp_20, mr_21, mr_22, mr_23, mr_24, mr_25, mr_26, mr_27, mr_28, mr_29, mr_30, mr_31, mr_32, mg_33, mp_33, mr_34, mr_35, mr_36, mr_37, mr_38, mg_39, mp_39, mr_40, mr_41, mr_42, mg_43, mp_43, mr_44, mr_45, mg_46, mp_46, mr_47, mr_48, mg_49, mp_49, mg_50, mp_50, mg_51, mp_51, mr_52, mr_53, mr_54, mg_55, mp_55, mr_56, mr_57, mg_58, mp_58, mg_59, mp_59, mg_60, mp_60, mr_61, mg_62, mp_62, mr_63, mr_64, mr_65, mr_66, mr_67, mr_68, ma_1, ms_1, ma_2, ms_2, ma_3, ms_3, ma_4, ms_4, ma_5, ms_5, ma_6, ms_6, ma_7, ms_7, ma_8, ms_8, ma_9, ms_9, ma_10, ms_10, ma_11, ms_11, ma_12, ms_12, ma_13, ms_13, ma_14, ms_14, ma_15, ms_15, ma_16, ms_16, ma_17, ms_17, ma_18, ms_18, ma_19, ms_19, ma_20, ms_20, ma_21, ms_21, ma_22, ms_22, ma_23, ms_23, ma_24, ms_24, ma_25, ms_25, ma_26, ms_26, ma_27, ms_27, ma_28, ms_28, ma_29, ms_29, ma_30, ms_30, ma_31, ms_31, ma_32, ms_32, ma_33, ms_33, ma_34, ms_34, ma_35, ms_35, ma_36, ms_36, ma_37, ms_37, ma_38, ms_38, ma_39, ms_39, ma_40, ms_40, ma_41, ms_41, ma_42, ms_42, ma_43, ms_43, Option.bind_some, cb, lt, nI_1, hs_nar2, nh4, upd_at, vau_at, ma_30_18, ms_30_18, ma_31_18, ms_31_18, ma_28_0, ms_28_0, ma_28_1, ms_28_1, ma_28_2, ms_28_2, ma_28_3, ms_28_3, ma_28_4, ms_28_4, ma_42_0, ms_42_0, ma_42_1, ms_42_1, ma_42_2, ms_42_2, ma_36_0, ms_36_0, m1, a6]
      have ee : (iI mb = nI (pB P k)) ↔ mb = (pB P k : Int) := by rw [iI_nI]; exact iI_eq m4 ⟨by omega, by omega⟩
      by_cases c1 : mb = (pB P k : Int)
      · have m7 := m6 (by omega)
        rw [if_pos (ee.2 c1)]
        simp (disch := first | assumption | omega | rfl | exact And.intro (by omega) (by omega)) only [mck, mg_0, mp_0, mr_1, mg_2, mp_2, mr_3, mg_4, mp_4, mr_5, mr_6, mr_7, mr_8, mr_9, mg_10, mp_10, mg_11, mp_11, mg_12, mp_12, mg_13, mp_13, mg_14, mp_14, mg_15, mp_15, mg_16, mp_16, mg_17, mp_17, mg_18, mp_18, mg_19, mp_19, mg_20, mp_20, mr_21, mr_22, mr_23, mr_24, mr_25, mr_26, mr_27, mr_28, mr_29, mr_30, mr_31, mr_32, mg_33, mp_33, mr_34, mr_35, mr_36, mr_37, mr_38, mg_39, mp_39, mr_40, mr_41, mr_42, mg_43, mp_43, mr_44, mr_45, mg_46, mp_46, mr_47, mr_48, mg_49, mp_49, mg_50, mp_50, mg_51, mp_51, mr_52, mr_53, mr_54, mg_55, mp_55, mr_56, mr_57, mg_58, mp_58, mg_59, mp_59, mg_60, mp_60, mr_61, mg_62, mp_62, mr_63, mr_64, mr_65, mr_66, mr_67, mr_68, ma_1, ms_1, ma_2, ms_2, ma_3, ms_3, ma_4, ms_4, ma_5, ms_5, ma_6, ms_6, ma_7, ms_7, ma_8, ms_8, ma_9, ms_9, ma_10, ms_10, ma_11, ms_11, ma_12, ms_12, ma_13, ms_13, ma_14, ms_14, ma_15, ms_15, ma_16, ms_16, ma_17, ms_17, ma_18, ms_18, ma_19, ms_19, ma_20, ms_20, ma_21, ms_21, ma_22, ms_22, ma_23, ms_23, ma_24, ms_24, ma_25, ms_25, ma_26, ms_26, ma_27, ms_27, ma_28, ms_28, ma_29, ms_29, ma_30, ms_30, ma_31, ms_31, ma_32, ms_32, ma_33, ms_33, ma_34, ms_34, ma_35, ms_35, ma_36, ms_36, ma_37, ms_37, ma_38, ms_38, ma_39, ms_39, ma_40, ms_40, ma_41, ms_41, ma_42, ms_42, ma_43, ms_43, Option.bind_some, cb, lt, nI_1, hs_nar2, nh4, upd_at, vau_at, ma_30_18, ms_30_18, ma_31_18, ms_31_18, ma_28_0, ms_28_0, ma_28_1, ms_28_1, ma_28_2, ms_28_2, ma_28_3, ms_28_3, ma_28_4, ms_28_4, ma_42_0, ms_42_0, ma_42_1, ms_42_1, ma_42_2, ms_42_2, ma_36_0, ms_36_0, m2, m3, a7, m_add6, iI_add, iI_jJ, two_jJ, jJ_mul, jJ_add]
        rw [s1, s2]
        simp only [gl, gm, if_pos c1]
        congr 2 <;> omega
      · rw [if_neg (fun q => c1 (ee.1 q))]
        rw [s1, s2]
        simp only [gl, gm, if_neg c1]
        congr 2 <;> omega
    rw [hgo]
    unfold fX12_fillsLoads_b213
    simp (disch := first | assumption | omega | rfl | exact And.intro (by omega) (by omega)) only [mck, mg_0, mp_0, mr_1, mg_2, mp_2, mr_3, mg_4, mp_4, mr_5, mr_6, mr_7, mr_8, mr_9, mg_10, mp_10, mg_11, mp_11, mg_12, mp_12, mg_13, mp_13, mg_14, mp_14, mg_15, mp_15, mg_16, mp_16, mg_17, mp_17, mg_18, mp_18, mg_19, mp_19, mg_20, mp_20, mr_21, mr_22, mr_23, mr_24, mr_25, mr_26, mr_27, mr_28, mr_29, mr_30, mr_31, mr_32, mg_33, mp_33, mr_34, mr_35, mr_36, mr_37, mr_38, mg_39, mp_39, mr_40, mr_41, mr_42, mg_43, mp_43, mr_44, mr_45, mg_46, mp_46, mr_47, mr_48, mg_49, mp_49, mg_50, mp_50, mg_51, mp_51, mr_52, mr_53, mr_54, mg_55, mp_55, mr_56, mr_57, mg_58, mp_58, mg_59, mp_59, mg_60, mp_60, mr_61, mg_62, mp_62, mr_63, mr_64, mr_65, mr_66, mr_67, mr_68, ma_1, ms_1, ma_2, ms_2, ma_3, ms_3, ma_4, ms_4, ma_5, ms_5, ma_6, ms_6, ma_7, ms_7, ma_8, ms_8, ma_9, ms_9, ma_10, ms_10, ma_11, ms_11, ma_12, ms_12, ma_13, ms_13, ma_14, ms_14, ma_15, ms_15, ma_16, ms_16, ma_17, ms_17, ma_18, ms_18, ma_19, ms_19, ma_20, ms_20, ma_21, ms_21, ma_22, ms_22, ma_23, ms_23, ma_24, ms_24, ma_25, ms_25, ma_26, ms_26, ma_27, ms_27, ma_28, ms_28, ma_29, ms_29, ma_30, ms_30, ma_31, ms_31, ma_32, ms_32, ma_33, ms_33, ma_34, ms_34, ma_35, ms_35, ma_36, ms_36, ma_37, ms_37, ma_38, ms_38, ma_39, ms_39, ma_40, ms_40, ma_41, ms_41, ma_42, ms_42, ma_43, ms_43, Option.bind_some, cb, lt, nI_1, hs_nar2, nh4, upd_at, vau_at, ma_30_18, ms_30_18, ma_31_18, ms_31_18, ma_28_0, ms_28_0, ma_28_1, ms_28_1, ma_28_2, ms_28_2, ma_28_3, ms_28_3, ma_28_4, ms_28_4, ma_42_0, ms_42_0, ma_42_1, ms_42_1, ma_42_2, ms_42_2, ma_36_0, ms_36_0]
    have ek2 : nI k + (-1 : Int32) = iI ((k : Int) - 1) := by
      rw [iI_nI, m1_iI, iI_add]
      rfl
    rw [ek2]
    have g2 : MS F1 F1 A1 A1 B (va_up (va_up B 33 (vp_updL (B 33) k (jJ (sumD (gl T tr mb mw P) P.1 (P.1 - k))))) 34 (vp_updL (va_up B 33 (vp_updL (B 33) k (jJ (sumD (gl T tr mb mw P) P.1 (P.1 - k)))) 34) k (jJ (sumD (gm T tr mb mw ma P) P.1 (P.1 - k))))) := ⟨fun _ _ => rfl, fun _ _ _ => rfl, fun c q1 q2 => by rw [vau_ne q2, vau_ne q1]⟩
    obtain ⟨F2, A2, B2, r1, r2, r3⟩ := ih fuel (by omega) (by omega) (B := (va_up (va_up B 33 (vp_updL (B 33) k (jJ (sumD (gl T tr mb mw P) P.1 (P.1 - k))))) 34 (vp_updL (va_up B 33 (vp_updL (B 33) k (jJ (sumD (gl T tr mb mw P) P.1 (P.1 - k)))) 34) k (jJ (sumD (gm T tr mb mw ma P) P.1 (P.1 - k)))))) (hR1.ms g2) (hM1.ms g2) (by
      intro j q1 q2
      rw [vau_ne (show ¬ 33 = 34 by decide), vau_at, vau_at, vau_ne (show ¬ 34 = 33 by decide)]
      by_cases c2 : j = k
      · subst c2
        rw [updL_at, updL_at]
        exact ⟨rfl, rfl⟩
      · rw [updL_ne c2, updL_ne c2]
        exact hB j (by omega) q2)
    exact ⟨F2, A2, B2, r1, (w2.tr g2).tr r2, r3⟩
/-- what the model's loads say -/
def MLd (B : Nat → Nat → Int64) (T : TD) (tr : Nat → Int) (mb mw ma : Int) (P : AP) : Prop := ∀ j, j < P.1 → B 33 j = jJ (sumD (gl T tr mb mw P) P.1 (P.1 - j)) ∧ B 34 j = jJ (sumD (gm T tr mb mw ma P) P.1 (P.1 - j))
theorem m_fillsLoads {F : Nat → Int32} {A : Nat → Nat → Int32} (B : Nat → Nat → Int64) {lv : Nat} {T : TD} {tr : Nat → Int} {P : AP} {mb mw ma : Int} (hR : MRow F A lv T tr P) (hM : More F mb mw ma) : ∃ F' A' B', fX12_fillsLoads 0 (mkM F A B) = some ((), mkM F' A' B') ∧ MS F F' A A' B B' ∧ MLd B' T tr mb mw ma P := by
  have hk6 := hR.2.2.1.2.1
  have hs := hR.sz
  unfold fX12_fillsLoads
  simp (disch := first | assumption | omega | rfl | exact And.intro (by omega) (by omega)) only [mck, mg_0, mp_0, mr_1, mg_2, mp_2, mr_3, mg_4, mp_4, mr_5, mr_6, mr_7, mr_8, mr_9, mg_10, mp_10, mg_11, mp_11, mg_12, mp_12, mg_13, mp_13, mg_14, mp_14, mg_15, mp_15, mg_16, mp_16, mg_17, mp_17, mg_18, mp_18, mg_19, mp_19, mg_20, mp_20, mr_21, mr_22, mr_23, mr_24, mr_25, mr_26, mr_27, mr_28, mr_29, mr_30, mr_31, mr_32, mg_33, mp_33, mr_34, mr_35, mr_36, mr_37, mr_38, mg_39, mp_39, mr_40, mr_41, mr_42, mg_43, mp_43, mr_44, mr_45, mg_46, mp_46, mr_47, mr_48, mg_49, mp_49, mg_50, mp_50, mg_51, mp_51, mr_52, mr_53, mr_54, mg_55, mp_55, mr_56, mr_57, mg_58, mp_58, mg_59, mp_59, mg_60, mp_60, mr_61, mg_62, mp_62, mr_63, mr_64, mr_65, mr_66, mr_67, mr_68, ma_1, ms_1, ma_2, ms_2, ma_3, ms_3, ma_4, ms_4, ma_5, ms_5, ma_6, ms_6, ma_7, ms_7, ma_8, ms_8, ma_9, ms_9, ma_10, ms_10, ma_11, ms_11, ma_12, ms_12, ma_13, ms_13, ma_14, ms_14, ma_15, ms_15, ma_16, ms_16, ma_17, ms_17, ma_18, ms_18, ma_19, ms_19, ma_20, ms_20, ma_21, ms_21, ma_22, ms_22, ma_23, ms_23, ma_24, ms_24, ma_25, ms_25, ma_26, ms_26, ma_27, ms_27, ma_28, ms_28, ma_29, ms_29, ma_30, ms_30, ma_31, ms_31, ma_32, ms_32, ma_33, ms_33, ma_34, ms_34, ma_35, ms_35, ma_36, ms_36, ma_37, ms_37, ma_38, ms_38, ma_39, ms_39, ma_40, ms_40, ma_41, ms_41, ma_42, ms_42, ma_43, ms_43, Option.bind_some, cb, lt, nI_1, hs_nar2, nh4, upd_at, vau_at, ma_30_18, ms_30_18, ma_31_18, ms_31_18, ma_28_0, ms_28_0, ma_28_1, ms_28_1, ma_28_2, ms_28_2, ma_28_3, ms_28_3, ma_28_4, ms_28_4, ma_42_0, ms_42_0, ma_42_1, ms_42_1, ma_42_2, ms_42_2, ma_36_0, ms_36_0, hs]
  obtain ⟨F2, A2, B2, r1, r2, r3⟩ := m_fills (lv := lv) (T := T) (tr := tr) (P := P) (mb := mb) (mw := mw) (ma := ma) P.1 FU (Nat.le_refl _) (by unfold FU; omega) (B := B) hR hM (fun j q1 q2 => by omega)
  have e1 : nI P.1 - 1 = iI ((P.1 : Int) - 1) := iI_sub (P.1 : Int) 1
  rw [Nat.sub_self] at r1
  rw [e1, jJ_0]
  exact ⟨F2, A2, B2, r1, r2, r3⟩
