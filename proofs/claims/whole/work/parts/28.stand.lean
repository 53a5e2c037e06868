/-! ===== which level stands ===== -/
def lfB (T : TD) (P : AP) (i : Nat) : Int := if i = 0 then -tTb T else pP P (i - 1)
def rtB (T : TD) (P : AP) (i : Nat) : Int := if i = 0 then 0 else pP P (i - 1) + tLg T (pB P (i - 1))
def lf (T : TD) (P : AP) (i : Nat) : Int := max (lfB T P i) (pP P i)
def rt (T : TD) (P : AP) (i : Nat) : Int := min (rtB T P i) (pP P i + tLg T (pB P i))
def ld (T : TD) (tr : Nat → Int) (mb mw : Int) (P : AP) (i : Nat) : Int := sumD (gl T tr mb mw P) P.1 (P.1 - i)
def mo (T : TD) (tr : Nat → Int) (mb mw ma : Int) (P : AP) (i : Nat) : Int := sumD (gm T tr mb mw ma P) P.1 (P.1 - i)
def stB (T : TD) (P : AP) (l m : Int) (i : Nat) : Bool := decide ((0 < i ∧ pG P i = 1) ∨ (lf T P i * (2 * l) ≤ m ∧ m ≤ rt T P i * (2 * l)))
theorem rest_b {T : TD} {P : AP} (hT : GoodT T) (hP : BigP (tNb T) P) {i : Nat} (hi : i < P.1) : (-2199 ≤ lfB T P i ∧ lfB T P i ≤ 2199) ∧ (-2199 ≤ rtB T P i ∧ rtB T P i ≤ 2298) ∧ (-2199 ≤ lf T P i ∧ lf T P i ≤ 2199) ∧ (-2199 ≤ rt T P i ∧ rt T P i ≤ 2298) := by
  have h1 := hP.2.2.2.1 i hi
  have h2 := hT.2.1 _ (hP.2.1 i hi)
  have h3 := hT.2.2.1
  have h4 : i - 1 < P.1 := by omega
  have h5 := hP.2.2.2.1 _ h4
  have h6 := hT.2.1 _ (hP.2.1 _ h4)
  simp only [lf, rt, lfB, rtB]
  by_cases c : i = 0
  · simp only [if_pos c]; omega
  · simp only [if_neg c]; omega
theorem gl_b {T : TD} {tr : Nat → Int} {mb mw : Int} {P : AP} (hT : GoodT T) (hP : BigP (tNb T) P) (ht : Tr tr) (hw : 0 ≤ mw ∧ mw ≤ 9999) {i : Nat} (hi : i < P.1) : 1 ≤ gl T tr mb mw P i ∧ gl T tr mb mw P i ≤ 10692 := by
  have h1 := wg_b hT ht (hP.2.1 i hi)
  have h2 := flyL_b hT (pB P i) _ (Nat.le_refl _)
  have h3 := hT.2.2.2.1
  unfold gl
  split <;> omega
theorem gm_b {T : TD} {tr : Nat → Int} {mb mw ma : Int} {P : AP} (hT : GoodT T) (hP : BigP (tNb T) P) (ht : Tr tr) (hw : 0 ≤ mw ∧ mw ≤ 9999) (hm : 0 ≤ mb → 0 ≤ ma ∧ ma ≤ 99) {i : Nat} (hi : i < P.1) : -50000000 ≤ gm T tr mb mw ma P i ∧ gm T tr mb mw ma P i ≤ 50000000 := by
  have h1 := wg_b hT ht (hP.2.1 i hi)
  have h2 := flyL_b hT (pB P i) _ (Nat.le_refl _)
  have h3 := hT.2.2.2.1
  have h4 := flyT_b hT (pB P i) _ (Nat.le_refl _)
  have h5 := hP.2.2.2.1 i hi
  have h6 := hT.2.1 _ (hP.2.1 i hi)
  have h7 := mul_b (a := wg T tr P i) (b := 2 * pP P i + tLg T (pB P i)) (M := 99) (N := 4497) (by omega) (by omega) (by omega)
  have h8 := mul_b (a := pP P i) (b := flyL T (pB P i) (tNf T)) (M := 2199) (N := 594) (by omega) (by omega) (by omega)
  unfold gm
  split
  · have h9 := hm (by omega)
    have h10 := mul_b (a := 2 * mw) (b := pP P i + ma) (M := 19998) (N := 2298) (by omega) (by omega) (by omega)
    omega
  · omega
theorem ld_b {T : TD} {tr : Nat → Int} {mb mw : Int} {P : AP} (hT : GoodT T) (hP : BigP (tNb T) P) (ht : Tr tr) (hw : 0 ≤ mw ∧ mw ≤ 9999) {i : Nat} (hi : i < P.1) : 1 ≤ ld T tr mb mw P i ∧ ld T tr mb mw P i ≤ 64152 := by
  have h1 := sumD_b (fun i hi => gl_b (mb := mb) hT hP ht hw (i := i) hi) (P.1 - i) (by omega)
  have h2 := hP.1
  unfold ld
  omega
theorem mo_b {T : TD} {tr : Nat → Int} {mb mw ma : Int} {P : AP} (hT : GoodT T) (hP : BigP (tNb T) P) (ht : Tr tr) (hw : 0 ≤ mw ∧ mw ≤ 9999) (hm : 0 ≤ mb → 0 ≤ ma ∧ ma ≤ 99) {i : Nat} (hi : i < P.1) : -300000000 ≤ mo T tr mb mw ma P i ∧ mo T tr mb mw ma P i ≤ 300000000 := by
  have h1 := sumD_b (fun i hi => gm_b (mb := mb) hT hP ht hw hm (i := i) hi) (P.1 - i) (by omega)
  have h2 := hP.1
  unfold mo
  omega
theorem iI_max {a b : Int} (ha : in32 a) (hb : in32 b) : (if iI a < iI b then iI b else iI a) = iI (max a b) := by
  by_cases h : a < b
  · rw [if_pos ((iI_lt ha hb).2 h)]; congr 1; omega
  · rw [if_neg (fun q => h ((iI_lt ha hb).1 q))]; congr 1; omega
theorem m_leftBelow {F : Nat → Int32} {A : Nat → Nat → Int32} {B : Nat → Nat → Int64} {lv : Nat} {T : TD} {tr : Nat → Int} {P : AP} (h : MRow F A lv T tr P) {i : Nat} (hi : i < P.1) : fX12_leftBelow 0 (nI i) (mkM F A B) = some (iI (lfB T P i), mkM F A B) := by
  obtain ⟨a1, a2, a3, a4, a5, a6, a7, a8, a9, a10, a11, a12⟩ := h.at hi
  have h1 := h.1.1
  have h2 := h.1.2
  have h3 := h.2.1.2.2.2.1
  unfold fX12_leftBelow lfB
  by_cases c : i = 0
  · subst c
    simp (disch := first | assumption | omega | rfl | exact And.intro (by omega) (by omega)) only [mck, mg_0, mp_0, mr_1, mg_2, mp_2, mr_3, mg_4, mp_4, mr_5, mr_6, mr_7, mr_8, mr_9, mg_10, mp_10, mg_11, mp_11, mg_12, mp_12, mg_13, mp_13, mg_14, mp_14, mg_15, mp_15, mg_16, mp_16, mg_17, mp_17, mg_18, mp_18, mg_19, mp_19, mg_20, mp_20, mr_21, mr_22, mr_23, mr_24, mr_25, mr_26, mr_27, mr_28, mr_29, mr_30, mr_31, mr_32, mg_33, mp_33, mr_34, mr_35, mr_36, mr_37, mr_38, mg_39, mp_39, mr_40, mr_41, mr_42, mg_43, mp_43, mr_44, mr_45, mg_46, mp_46, mr_47, mr_48, mg_49, mp_49, mg_50, mp_50, mg_51, mp_51, mr_52, mr_53, mr_54, mg_55, mp_55, mr_56, mr_57, mg_58, mp_58, mg_59, mp_59, mg_60, mp_60, mr_61, mg_62, mp_62, mr_63, mr_64, mr_65, mr_66, mr_67, mr_68, ma_1, ms_1, ma_2, ms_2, ma_3, ms_3, ma_4, ms_4, ma_5, ms_5, ma_6, ms_6, ma_7, ms_7, ma_8, ms_8, ma_9, ms_9, ma_10, ms_10, ma_11, ms_11, ma_12, ms_12, ma_13, ms_13, ma_14, ms_14, ma_15, ms_15, ma_16, ms_16, ma_17, ms_17, ma_18, ms_18, ma_19, ms_19, ma_20, ms_20, ma_21, ms_21, ma_22, ms_22, ma_23, ms_23, ma_24, ms_24, ma_25, ms_25, ma_26, ms_26, ma_27, ms_27, ma_28, ms_28, ma_29, ms_29, ma_30, ms_30, ma_31, ms_31, ma_32, ms_32, ma_33, ms_33, ma_34, ms_34, ma_35, ms_35, ma_36, ms_36, ma_37, ms_37, ma_38, ms_38, ma_39, ms_39, ma_40, ms_40, ma_41, ms_41, ma_42, ms_42, ma_43, ms_43, if_true, if_false, Option.bind_some, cb, lt, nI_1, hs_nar2, nh4, upd_at, vau_at, ma_30_18, ms_30_18, ma_31_18, ms_31_18, ma_28_0, ms_28_0, ma_28_1, ms_28_1, ma_28_2, ms_28_2, ma_28_3, ms_28_3, ma_28_4, ms_28_4, ma_42_0, ms_42_0, ma_42_1, ms_42_1, ma_42_2, ms_42_2, ma_36_0, ms_36_0, nI_0, h1, h3, iI_neg]
  · obtain ⟨b1, b2, b3, b4, b5, b6, b7, b8⟩ := h.at (i := i - 1) (by omega)
    rw [show 6 + (i - 1) = 5 + i by omega] at b7
    have c2 : ¬ nI i = 0 := nI_ne0 (by omega) (by omega)
    rw [if_neg c]
    simp (disch := first | assumption | omega | rfl | exact And.intro (by omega) (by omega)) only [mck, mg_0, mp_0, mr_1, mg_2, mp_2, mr_3, mg_4, mp_4, mr_5, mr_6, mr_7, mr_8, mr_9, mg_10, mp_10, mg_11, mp_11, mg_12, mp_12, mg_13, mp_13, mg_14, mp_14, mg_15, mp_15, mg_16, mp_16, mg_17, mp_17, mg_18, mp_18, mg_19, mp_19, mg_20, mp_20, mr_21, mr_22, mr_23, mr_24, mr_25, mr_26, mr_27, mr_28, mr_29, mr_30, mr_31, mr_32, mg_33, mp_33, mr_34, mr_35, mr_36, mr_37, mr_38, mg_39, mp_39, mr_40, mr_41, mr_42, mg_43, mp_43, mr_44, mr_45, mg_46, mp_46, mr_47, mr_48, mg_49, mp_49, mg_50, mp_50, mg_51, mp_51, mr_52, mr_53, mr_54, mg_55, mp_55, mr_56, mr_57, mg_58, mp_58, mg_59, mp_59, mg_60, mp_60, mr_61, mg_62, mp_62, mr_63, mr_64, mr_65, mr_66, mr_67, mr_68, ma_1, ms_1, ma_2, ms_2, ma_3, ms_3, ma_4, ms_4, ma_5, ms_5, ma_6, ms_6, ma_7, ms_7, ma_8, ms_8, ma_9, ms_9, ma_10, ms_10, ma_11, ms_11, ma_12, ms_12, ma_13, ms_13, ma_14, ms_14, ma_15, ms_15, ma_16, ms_16, ma_17, ms_17, ma_18, ms_18, ma_19, ms_19, ma_20, ms_20, ma_21, ms_21, ma_22, ms_22, ma_23, ms_23, ma_24, ms_24, ma_25, ms_25, ma_26, ms_26, ma_27, ms_27, ma_28, ms_28, ma_29, ms_29, ma_30, ms_30, ma_31, ms_31, ma_32, ms_32, ma_33, ms_33, ma_34, ms_34, ma_35, ms_35, ma_36, ms_36, ma_37, ms_37, ma_38, ms_38, ma_39, ms_39, ma_40, ms_40, ma_41, ms_41, ma_42, ms_42, ma_43, ms_43, if_true, if_false, Option.bind_some, cb, lt, nI_1, hs_nar2, nh4, upd_at, vau_at, ma_30_18, ms_30_18, ma_31_18, ms_31_18, ma_28_0, ms_28_0, ma_28_1, ms_28_1, ma_28_2, ms_28_2, ma_28_3, ms_28_3, ma_28_4, ms_28_4, ma_42_0, ms_42_0, ma_42_1, ms_42_1, ma_42_2, ms_42_2, ma_36_0, ms_36_0, if_neg c2, m_add5, b7]
theorem m_rightBelow {F : Nat → Int32} {A : Nat → Nat → Int32} {B : Nat → Nat → Int64} {lv : Nat} {T : TD} {tr : Nat → Int} {P : AP} (h : MRow F A lv T tr P) {i : Nat} (hi : i < P.1) : fX12_rightBelow 0 (nI i) (mkM F A B) = some (iI (rtB T P i), mkM F A B) := by
  obtain ⟨a1, a2, a3, a4, a5, a6, a7, a8, a9, a10, a11, a12⟩ := h.at hi
  unfold fX12_rightBelow rtB
  by_cases c : i = 0
  · subst c
    simp (disch := first | assumption | omega | rfl | exact And.intro (by omega) (by omega)) only [mck, mg_0, mp_0, mr_1, mg_2, mp_2, mr_3, mg_4, mp_4, mr_5, mr_6, mr_7, mr_8, mr_9, mg_10, mp_10, mg_11, mp_11, mg_12, mp_12, mg_13, mp_13, mg_14, mp_14, mg_15, mp_15, mg_16, mp_16, mg_17, mp_17, mg_18, mp_18, mg_19, mp_19, mg_20, mp_20, mr_21, mr_22, mr_23, mr_24, mr_25, mr_26, mr_27, mr_28, mr_29, mr_30, mr_31, mr_32, mg_33, mp_33, mr_34, mr_35, mr_36, mr_37, mr_38, mg_39, mp_39, mr_40, mr_41, mr_42, mg_43, mp_43, mr_44, mr_45, mg_46, mp_46, mr_47, mr_48, mg_49, mp_49, mg_50, mp_50, mg_51, mp_51, mr_52, mr_53, mr_54, mg_55, mp_55, mr_56, mr_57, mg_58, mp_58, mg_59, mp_59, mg_60, mp_60, mr_61, mg_62, mp_62, mr_63, mr_64, mr_65, mr_66, mr_67, mr_68, ma_1, ms_1, ma_2, ms_2, ma_3, ms_3, ma_4, ms_4, ma_5, ms_5, ma_6, ms_6, ma_7, ms_7, ma_8, ms_8, ma_9, ms_9, ma_10, ms_10, ma_11, ms_11, ma_12, ms_12, ma_13, ms_13, ma_14, ms_14, ma_15, ms_15, ma_16, ms_16, ma_17, ms_17, ma_18, ms_18, ma_19, ms_19, ma_20, ms_20, ma_21, ms_21, ma_22, ms_22, ma_23, ms_23, ma_24, ms_24, ma_25, ms_25, ma_26, ms_26, ma_27, ms_27, ma_28, ms_28, ma_29, ms_29, ma_30, ms_30, ma_31, ms_31, ma_32, ms_32, ma_33, ms_33, ma_34, ms_34, ma_35, ms_35, ma_36, ms_36, ma_37, ms_37, ma_38, ms_38, ma_39, ms_39, ma_40, ms_40, ma_41, ms_41, ma_42, ms_42, ma_43, ms_43, if_true, if_false, Option.bind_some, cb, lt, nI_1, hs_nar2, nh4, upd_at, vau_at, ma_30_18, ms_30_18, ma_31_18, ms_31_18, ma_28_0, ms_28_0, ma_28_1, ms_28_1, ma_28_2, ms_28_2, ma_28_3, ms_28_3, ma_28_4, ms_28_4, ma_42_0, ms_42_0, ma_42_1, ms_42_1, ma_42_2, ms_42_2, ma_36_0, ms_36_0, nI_0]
    rfl
  · obtain ⟨b1, b2, b3, b4, b5, b6, b7, b8⟩ := h.at (i := i - 1) (by omega)
    rw [show 6 + (i - 1) = 5 + i by omega] at b7
    have c2 : ¬ nI i = 0 := nI_ne0 (by omega) (by omega)
    have c3 : nI i - 1 = nI (i - 1) := pk_sub (b := 1) (by omega)
    rw [if_neg c]
    simp (disch := first | assumption | omega | rfl | exact And.intro (by omega) (by omega)) only [mck, mg_0, mp_0, mr_1, mg_2, mp_2, mr_3, mg_4, mp_4, mr_5, mr_6, mr_7, mr_8, mr_9, mg_10, mp_10, mg_11, mp_11, mg_12, mp_12, mg_13, mp_13, mg_14, mp_14, mg_15, mp_15, mg_16, mp_16, mg_17, mp_17, mg_18, mp_18, mg_19, mp_19, mg_20, mp_20, mr_21, mr_22, mr_23, mr_24, mr_25, mr_26, mr_27, mr_28, mr_29, mr_30, mr_31, mr_32, mg_33, mp_33, mr_34, mr_35, mr_36, mr_37, mr_38, mg_39, mp_39, mr_40, mr_41, mr_42, mg_43, mp_43, mr_44, mr_45, mg_46, mp_46, mr_47, mr_48, mg_49, mp_49, mg_50, mp_50, mg_51, mp_51, mr_52, mr_53, mr_54, mg_55, mp_55, mr_56, mr_57, mg_58, mp_58, mg_59, mp_59, mg_60, mp_60, mr_61, mg_62, mp_62, mr_63, mr_64, mr_65, mr_66, mr_67, mr_68, ma_1, ms_1, ma_2, ms_2, ma_3, ms_3, ma_4, ms_4, ma_5, ms_5, ma_6, ms_6, ma_7, ms_7, ma_8, ms_8, ma_9, ms_9, ma_10, ms_10, ma_11, ms_11, ma_12, ms_12, ma_13, ms_13, ma_14, ms_14, ma_15, ms_15, ma_16, ms_16, ma_17, ms_17, ma_18, ms_18, ma_19, ms_19, ma_20, ms_20, ma_21, ms_21, ma_22, ms_22, ma_23, ms_23, ma_24, ms_24, ma_25, ms_25, ma_26, ms_26, ma_27, ms_27, ma_28, ms_28, ma_29, ms_29, ma_30, ms_30, ma_31, ms_31, ma_32, ms_32, ma_33, ms_33, ma_34, ms_34, ma_35, ms_35, ma_36, ms_36, ma_37, ms_37, ma_38, ms_38, ma_39, ms_39, ma_40, ms_40, ma_41, ms_41, ma_42, ms_42, ma_43, ms_43, if_true, if_false, Option.bind_some, cb, lt, nI_1, hs_nar2, nh4, upd_at, vau_at, ma_30_18, ms_30_18, ma_31_18, ms_31_18, ma_28_0, ms_28_0, ma_28_1, ms_28_1, ma_28_2, ms_28_2, ma_28_3, ms_28_3, ma_28_4, ms_28_4, ma_42_0, ms_42_0, ma_42_1, ms_42_1, ma_42_2, ms_42_2, ma_36_0, ms_36_0, if_neg c2, m_add5, b7, c3, m_longAt h (show i - 1 < P.1 by omega), iI_add]
theorem m_leftOf {F : Nat → Int32} {A : Nat → Nat → Int32} {B : Nat → Nat → Int64} {lv : Nat} {T : TD} {tr : Nat → Int} {P : AP} (h : MRow F A lv T tr P) {i : Nat} (hi : i < P.1) : fX12_leftOf 0 (nI i) (mkM F A B) = some (iI (lf T P i), mkM F A B) := by
  obtain ⟨a1, a2, a3, a4, a5, a6, a7, a8, a9, a10, a11, a12⟩ := h.at hi
  have hr := rest_b h.2.1.1 h.2.2.1.2 hi
  unfold fX12_leftOf lf
  simp (disch := first | assumption | omega | rfl | exact And.intro (by omega) (by omega)) only [mck, mg_0, mp_0, mr_1, mg_2, mp_2, mr_3, mg_4, mp_4, mr_5, mr_6, mr_7, mr_8, mr_9, mg_10, mp_10, mg_11, mp_11, mg_12, mp_12, mg_13, mp_13, mg_14, mp_14, mg_15, mp_15, mg_16, mp_16, mg_17, mp_17, mg_18, mp_18, mg_19, mp_19, mg_20, mp_20, mr_21, mr_22, mr_23, mr_24, mr_25, mr_26, mr_27, mr_28, mr_29, mr_30, mr_31, mr_32, mg_33, mp_33, mr_34, mr_35, mr_36, mr_37, mr_38, mg_39, mp_39, mr_40, mr_41, mr_42, mg_43, mp_43, mr_44, mr_45, mg_46, mp_46, mr_47, mr_48, mg_49, mp_49, mg_50, mp_50, mg_51, mp_51, mr_52, mr_53, mr_54, mg_55, mp_55, mr_56, mr_57, mg_58, mp_58, mg_59, mp_59, mg_60, mp_60, mr_61, mg_62, mp_62, mr_63, mr_64, mr_65, mr_66, mr_67, mr_68, ma_1, ms_1, ma_2, ms_2, ma_3, ms_3, ma_4, ms_4, ma_5, ms_5, ma_6, ms_6, ma_7, ms_7, ma_8, ms_8, ma_9, ms_9, ma_10, ms_10, ma_11, ms_11, ma_12, ms_12, ma_13, ms_13, ma_14, ms_14, ma_15, ms_15, ma_16, ms_16, ma_17, ms_17, ma_18, ms_18, ma_19, ms_19, ma_20, ms_20, ma_21, ms_21, ma_22, ms_22, ma_23, ms_23, ma_24, ms_24, ma_25, ms_25, ma_26, ms_26, ma_27, ms_27, ma_28, ms_28, ma_29, ms_29, ma_30, ms_30, ma_31, ms_31, ma_32, ms_32, ma_33, ms_33, ma_34, ms_34, ma_35, ms_35, ma_36, ms_36, ma_37, ms_37, ma_38, ms_38, ma_39, ms_39, ma_40, ms_40, ma_41, ms_41, ma_42, ms_42, ma_43, ms_43, if_true, if_false, Option.bind_some, cb, lt, nI_1, hs_nar2, nh4, upd_at, vau_at, ma_30_18, ms_30_18, ma_31_18, ms_31_18, ma_28_0, ms_28_0, ma_28_1, ms_28_1, ma_28_2, ms_28_2, ma_28_3, ms_28_3, ma_28_4, ms_28_4, ma_42_0, ms_42_0, ma_42_1, ms_42_1, ma_42_2, ms_42_2, ma_36_0, ms_36_0, m_add6, a7, m_leftBelow h hi, iI_le]
  by_cases c : pP P i ≤ lfB T P i
  · rw [if_pos c, show max (lfB T P i) (pP P i) = lfB T P i by omega]
  · rw [if_neg c, show max (lfB T P i) (pP P i) = pP P i by omega]
theorem m_rightOf {F : Nat → Int32} {A : Nat → Nat → Int32} {B : Nat → Nat → Int64} {lv : Nat} {T : TD} {tr : Nat → Int} {P : AP} (h : MRow F A lv T tr P) {i : Nat} (hi : i < P.1) : fX12_rightOf 0 (nI i) (mkM F A B) = some (iI (rt T P i), mkM F A B) := by
  obtain ⟨a1, a2, a3, a4, a5, a6, a7, a8, a9, a10, a11, a12⟩ := h.at hi
  have hr := rest_b h.2.1.1 h.2.2.1.2 hi
  unfold fX12_rightOf rt
  simp (disch := first | assumption | omega | rfl | exact And.intro (by omega) (by omega)) only [mck, mg_0, mp_0, mr_1, mg_2, mp_2, mr_3, mg_4, mp_4, mr_5, mr_6, mr_7, mr_8, mr_9, mg_10, mp_10, mg_11, mp_11, mg_12, mp_12, mg_13, mp_13, mg_14, mp_14, mg_15, mp_15, mg_16, mp_16, mg_17, mp_17, mg_18, mp_18, mg_19, mp_19, mg_20, mp_20, mr_21, mr_22, mr_23, mr_24, mr_25, mr_26, mr_27, mr_28, mr_29, mr_30, mr_31, mr_32, mg_33, mp_33, mr_34, mr_35, mr_36, mr_37, mr_38, mg_39, mp_39, mr_40, mr_41, mr_42, mg_43, mp_43, mr_44, mr_45, mg_46, mp_46, mr_47, mr_48, mg_49, mp_49, mg_50, mp_50, mg_51, mp_51, mr_52, mr_53, mr_54, mg_55, mp_55, mr_56, mr_57, mg_58, mp_58, mg_59, mp_59, mg_60, mp_60, mr_61, mg_62, mp_62, mr_63, mr_64, mr_65, mr_66, mr_67, mr_68, ma_1, ms_1, ma_2, ms_2, ma_3, ms_3, ma_4, ms_4, ma_5, ms_5, ma_6, ms_6, ma_7, ms_7, ma_8, ms_8, ma_9, ms_9, ma_10, ms_10, ma_11, ms_11, ma_12, ms_12, ma_13, ms_13, ma_14, ms_14, ma_15, ms_15, ma_16, ms_16, ma_17, ms_17, ma_18, ms_18, ma_19, ms_19, ma_20, ms_20, ma_21, ms_21, ma_22, ms_22, ma_23, ms_23, ma_24, ms_24, ma_25, ms_25, ma_26, ms_26, ma_27, ms_27, ma_28, ms_28, ma_29, ms_29, ma_30, ms_30, ma_31, ms_31, ma_32, ms_32, ma_33, ms_33, ma_34, ms_34, ma_35, ms_35, ma_36, ms_36, ma_37, ms_37, ma_38, ms_38, ma_39, ms_39, ma_40, ms_40, ma_41, ms_41, ma_42, ms_42, ma_43, ms_43, if_true, if_false, Option.bind_some, cb, lt, nI_1, hs_nar2, nh4, upd_at, vau_at, ma_30_18, ms_30_18, ma_31_18, ms_31_18, ma_28_0, ms_28_0, ma_28_1, ms_28_1, ma_28_2, ms_28_2, ma_28_3, ms_28_3, ma_28_4, ms_28_4, ma_42_0, ms_42_0, ma_42_1, ms_42_1, ma_42_2, ms_42_2, ma_36_0, ms_36_0, m_add6, a7, m_rightBelow h hi, m_longAt h hi, iI_add, iI_le]
  by_cases c : rtB T P i ≤ pP P i + tLg T (pB P i)
  · rw [if_pos c, show min (rtB T P i) (pP P i + tLg T (pB P i)) = rtB T P i by omega]
  · rw [if_neg c, show min (rtB T P i) (pP P i + tLg T (pB P i)) = pP P i + tLg T (pB P i) by omega]
def b2 (b : Bool) : Int32 := if b then 1 else 0
theorem m_isStanding_b19 {F : Nat → Int32} {A : Nat → Nat → Int32} {B : Nat → Nat → Int64} {lv : Nat} {T : TD} {tr : Nat → Int} {P : AP} {mb mw ma : Int} (h : MRow F A lv T tr P) (hM : More F mb mw ma) (hL : MLd B T tr mb mw ma P) {i : Nat} (hi : i < P.1) (hg : ¬ (0 < i ∧ pG P i = 1)) : fX12_isStanding_b19 0 (nI i) (mkM F A B) = some (b2 (stB T P (ld T tr mb mw P i) (mo T tr mb mw ma P i) i), mkM F A B) := by
  obtain ⟨a1, a2, a3, a4, a5, a6, a7, a8, a9, a10, a11, a12⟩ := h.at hi
  have hr := rest_b h.2.1.1 h.2.2.1.2 hi
  have hl := ld_b (mb := mb) h.2.1.1 h.2.2.1.2 h.2.2.2.1 hM.2.2.1 hi
  have hm := mo_b (mb := mb) h.2.1.1 h.2.2.1.2 h.2.2.2.1 hM.2.2.1 hM.2.2.2 hi
  have e1 : B 33 i = jJ (ld T tr mb mw P i) := (hL i hi).1
  have e2 : B 34 i = jJ (mo T tr mb mw ma P i) := (hL i hi).2
  have p1 := mul_b (a := 2 * ld T tr mb mw P i) (b := lf T P i) (M := 128304) (N := 2298) (by omega) (by omega) (by omega)
  have p2 := mul_b (a := 2 * ld T tr mb mw P i) (b := rt T P i) (M := 128304) (N := 2298) (by omega) (by omega) (by omega)
  unfold fX12_isStanding_b19
  simp (disch := first | assumption | omega | rfl | exact And.intro (by omega) (by omega)) only [mck, mg_0, mp_0, mr_1, mg_2, mp_2, mr_3, mg_4, mp_4, mr_5, mr_6, mr_7, mr_8, mr_9, mg_10, mp_10, mg_11, mp_11, mg_12, mp_12, mg_13, mp_13, mg_14, mp_14, mg_15, mp_15, mg_16, mp_16, mg_17, mp_17, mg_18, mp_18, mg_19, mp_19, mg_20, mp_20, mr_21, mr_22, mr_23, mr_24, mr_25, mr_26, mr_27, mr_28, mr_29, mr_30, mr_31, mr_32, mg_33, mp_33, mr_34, mr_35, mr_36, mr_37, mr_38, mg_39, mp_39, mr_40, mr_41, mr_42, mg_43, mp_43, mr_44, mr_45, mg_46, mp_46, mr_47, mr_48, mg_49, mp_49, mg_50, mp_50, mg_51, mp_51, mr_52, mr_53, mr_54, mg_55, mp_55, mr_56, mr_57, mg_58, mp_58, mg_59, mp_59, mg_60, mp_60, mr_61, mg_62, mp_62, mr_63, mr_64, mr_65, mr_66, mr_67, mr_68, ma_1, ms_1, ma_2, ms_2, ma_3, ms_3, ma_4, ms_4, ma_5, ms_5, ma_6, ms_6, ma_7, ms_7, ma_8, ms_8, ma_9, ms_9, ma_10, ms_10, ma_11, ms_11, ma_12, ms_12, ma_13, ms_13, ma_14, ms_14, ma_15, ms_15, ma_16, ms_16, ma_17, ms_17, ma_18, ms_18, ma_19, ms_19, ma_20, ms_20, ma_21, ms_21, ma_22, ms_22, ma_23, ms_23, ma_24, ms_24, ma_25, ms_25, ma_26, ms_26, ma_27, ms_27, ma_28, ms_28, ma_29, ms_29, ma_30, ms_30, ma_31, ms_31, ma_32, ms_32, ma_33, ms_33, ma_34, ms_34, ma_35, ms_35, ma_36, ms_36, ma_37, ms_37, ma_38, ms_38, ma_39, ms_39, ma_40, ms_40, ma_41, ms_41, ma_42, ms_42, ma_43, ms_43, if_true, if_false, Option.bind_some, cb, lt, nI_1, hs_nar2, nh4, upd_at, vau_at, ma_30_18, ms_30_18, ma_31_18, ms_31_18, ma_28_0, ms_28_0, ma_28_1, ms_28_1, ma_28_2, ms_28_2, ma_28_3, ms_28_3, ma_28_4, ms_28_4, ma_42_0, ms_42_0, ma_42_1, ms_42_1, ma_42_2, ms_42_2, ma_36_0, ms_36_0, e1, e2, m_leftOf h hi, m_rightOf h hi, two_jJ, iI_jJ, jJ_mul, lg_cmp_lt, lg_cmp_gt, jJ_lt, iI_lt]
  unfold stB b2
  have hsub : (0 < i ∧ pG P i = 1 ∨ lf T P i * (2 * ld T tr mb mw P i) ≤ mo T tr mb mw ma P i ∧ mo T tr mb mw ma P i ≤ rt T P i * (2 * ld T tr mb mw P i)) ↔ (2 * ld T tr mb mw P i * lf T P i ≤ mo T tr mb mw ma P i ∧ mo T tr mb mw ma P i ≤ 2 * ld T tr mb mw P i * rt T P i) := by
    rw [Int.mul_comm (lf T P i), Int.mul_comm (rt T P i)]
    exact ⟨fun q => q.elim (fun z => absurd z hg) id, Or.inr⟩
  simp only [hsub]
  by_cases c1 : rt T P i < lf T P i
  · rw [if_pos c1, if_neg]
    intro q
    have q1 := of_decide_eq_true q
    have q2 := Int.mul_le_mul_of_nonneg_left (show rt T P i + 1 ≤ lf T P i by omega) (show 0 ≤ 2 * ld T tr mb mw P i by omega)
    rw [Int.mul_add] at q2
    omega
  · rw [if_neg c1]
    by_cases c2 : mo T tr mb mw ma P i < 2 * ld T tr mb mw P i * lf T P i
    · rw [if_pos c2, if_neg]
      intro q
      have q1 := of_decide_eq_true q
      omega
    · rw [if_neg c2]
      by_cases c3 : 2 * ld T tr mb mw P i * rt T P i < mo T tr mb mw ma P i
      · rw [if_pos c3, if_neg]
        intro q
        have q1 := of_decide_eq_true q
        omega
      · rw [if_neg c3, if_pos]
        exact decide_eq_true ⟨by omega, by omega⟩
theorem m_isStanding {F : Nat → Int32} {A : Nat → Nat → Int32} {B : Nat → Nat → Int64} {lv : Nat} {T : TD} {tr : Nat → Int} {P : AP} {mb mw ma : Int} (h : MRow F A lv T tr P) (hM : More F mb mw ma) (hL : MLd B T tr mb mw ma P) {i : Nat} (hi : i < P.1) : fX12_isStanding 0 (nI i) (mkM F A B) = some (b2 (stB T P (ld T tr mb mw P i) (mo T tr mb mw ma P i) i), mkM F A B) := by
  obtain ⟨a1, a2, a3, a4, a5, a6, a7, a8, a9, a10, a11, a12⟩ := h.at hi
  unfold fX12_isStanding
  by_cases c : i = 0
  · rw [mck, if_pos (by rw [c]; decide), m_isStanding_b19 h hM hL hi (fun q => by omega)]
  · rw [mck, if_neg (nI_nle (by omega) (by omega))]
    simp (disch := first | assumption | omega | rfl | exact And.intro (by omega) (by omega)) only [mck, mg_0, mp_0, mr_1, mg_2, mp_2, mr_3, mg_4, mp_4, mr_5, mr_6, mr_7, mr_8, mr_9, mg_10, mp_10, mg_11, mp_11, mg_12, mp_12, mg_13, mp_13, mg_14, mp_14, mg_15, mp_15, mg_16, mp_16, mg_17, mp_17, mg_18, mp_18, mg_19, mp_19, mg_20, mp_20, mr_21, mr_22, mr_23, mr_24, mr_25, mr_26, mr_27, mr_28, mr_29, mr_30, mr_31, mr_32, mg_33, mp_33, mr_34, mr_35, mr_36, mr_37, mr_38, mg_39, mp_39, mr_40, mr_41, mr_42, mg_43, mp_43, mr_44, mr_45, mg_46, mp_46, mr_47, mr_48, mg_49, mp_49, mg_50, mp_50, mg_51, mp_51, mr_52, mr_53, mr_54, mg_55, mp_55, mr_56, mr_57, mg_58, mp_58, mg_59, mp_59, mg_60, mp_60, mr_61, mg_62, mp_62, mr_63, mr_64, mr_65, mr_66, mr_67, mr_68, ma_1, ms_1, ma_2, ms_2, ma_3, ms_3, ma_4, ms_4, ma_5, ms_5, ma_6, ms_6, ma_7, ms_7, ma_8, ms_8, ma_9, ms_9, ma_10, ms_10, ma_11, ms_11, ma_12, ms_12, ma_13, ms_13, ma_14, ms_14, ma_15, ms_15, ma_16, ms_16, ma_17, ms_17, ma_18, ms_18, ma_19, ms_19, ma_20, ms_20, ma_21, ms_21, ma_22, ms_22, ma_23, ms_23, ma_24, ms_24, ma_25, ms_25, ma_26, ms_26, ma_27, ms_27, ma_28, ms_28, ma_29, ms_29, ma_30, ms_30, ma_31, ms_31, ma_32, ms_32, ma_33, ms_33, ma_34, ms_34, ma_35, ms_35, ma_36, ms_36, ma_37, ms_37, ma_38, ms_38, ma_39, ms_39, ma_40, ms_40, ma_41, ms_41, ma_42, ms_42, ma_43, ms_43, if_true, if_false, Option.bind_some, cb, lt, nI_1, hs_nar2, nh4, upd_at, vau_at, ma_30_18, ms_30_18, ma_31_18, ms_31_18, ma_28_0, ms_28_0, ma_28_1, ms_28_1, ma_28_2, ms_28_2, ma_28_3, ms_28_3, ma_28_4, ms_28_4, ma_42_0, ms_42_0, ma_42_1, ms_42_1, ma_42_2, ms_42_2, ma_36_0, ms_36_0, m_add12, a8]
    by_cases c2 : pG P i = 1
    · rw [if_pos c2]
      have : stB T P (ld T tr mb mw P i) (mo T tr mb mw ma P i) i = true := decide_eq_true (Or.inl ⟨by omega, c2⟩)
      rw [this]
      rfl
    · rw [if_neg c2, m_isStanding_b19 h hM hL hi (fun q => c2 q.2)]
/-- the first level of k from i on that doesn't stand -/
def fal (s : Nat → Bool) : Nat → Nat → Option Nat
  | 0, _ => none
  | k + 1, i => if s i then fal s k (i + 1) else some i
def stAt (T : TD) (tr : Nat → Int) (mb mw ma : Int) (P : AP) (i : Nat) : Bool := stB T P (ld T tr mb mw P i) (mo T tr mb mw ma P i) i
def rF (d : Int32) : Option Nat → Int32
  | none => d
  | some i => nI i
theorem m_tips {F : Nat → Int32} {A : Nat → Nat → Int32} {B : Nat → Nat → Int64} {lv : Nat} {T : TD} {tr : Nat → Int} {P : AP} {mb mw ma : Int} (h : MRow F A lv T tr P) (hM : More F mb mw ma) (hL : MLd B T tr mb mw ma P) : ∀ k i fuel, i + k = P.1 → k < fuel → fX12_tipsAt_b6 fuel 0 (nI i) (mkM F A B) = some (rF (-2) (fal (stAt T tr mb mw ma P) k i), mkM F A B) := by
  have hs := h.sz
  have h6 := h.2.2.1.2.1
  intro k
  induction k with
  | zero =>
    intro i fuel h1 h2
    obtain ⟨fuel, rfl⟩ : ∃ q, fuel = q + 1 := ⟨fuel - 1, by omega⟩
    rw [fX12_tipsAt_b6]
    simp (disch := first | assumption | omega | rfl | exact And.intro (by omega) (by omega)) only [mck, mg_0, mp_0, mr_1, mg_2, mp_2, mr_3, mg_4, mp_4, mr_5, mr_6, mr_7, mr_8, mr_9, mg_10, mp_10, mg_11, mp_11, mg_12, mp_12, mg_13, mp_13, mg_14, mp_14, mg_15, mp_15, mg_16, mp_16, mg_17, mp_17, mg_18, mp_18, mg_19, mp_19, mg_20, mp_20, mr_21, mr_22, mr_23, mr_24, mr_25, mr_26, mr_27, mr_28, mr_29, mr_30, mr_31, mr_32, mg_33, mp_33, mr_34, mr_35, mr_36, mr_37, mr_38, mg_39, mp_39, mr_40, mr_41, mr_42, mg_43, mp_43, mr_44, mr_45, mg_46, mp_46, mr_47, mr_48, mg_49, mp_49, mg_50, mp_50, mg_51, mp_51, mr_52, mr_53, mr_54, mg_55, mp_55, mr_56, mr_57, mg_58, mp_58, mg_59, mp_59, mg_60, mp_60, mr_61, mg_62, mp_62, mr_63, mr_64, mr_65, mr_66, mr_67, mr_68, ma_1, ms_1, ma_2, ms_2, ma_3, ms_3, ma_4, ms_4, ma_5, ms_5, ma_6, ms_6, ma_7, ms_7, ma_8, ms_8, ma_9, ms_9, ma_10, ms_10, ma_11, ms_11, ma_12, ms_12, ma_13, ms_13, ma_14, ms_14, ma_15, ms_15, ma_16, ms_16, ma_17, ms_17, ma_18, ms_18, ma_19, ms_19, ma_20, ms_20, ma_21, ms_21, ma_22, ms_22, ma_23, ms_23, ma_24, ms_24, ma_25, ms_25, ma_26, ms_26, ma_27, ms_27, ma_28, ms_28, ma_29, ms_29, ma_30, ms_30, ma_31, ms_31, ma_32, ms_32, ma_33, ms_33, ma_34, ms_34, ma_35, ms_35, ma_36, ms_36, ma_37, ms_37, ma_38, ms_38, ma_39, ms_39, ma_40, ms_40, ma_41, ms_41, ma_42, ms_42, ma_43, ms_43, if_true, if_false, Option.bind_some, cb, lt, nI_1, hs_nar2, nh4, upd_at, vau_at, ma_30_18, ms_30_18, ma_31_18, ms_31_18, ma_28_0, ms_28_0, ma_28_1, ms_28_1, ma_28_2, ms_28_2, ma_28_3, ms_28_3, ma_28_4, ms_28_4, ma_42_0, ms_42_0, ma_42_1, ms_42_1, ma_42_2, ms_42_2, ma_36_0, ms_36_0, hs]
    rw [if_pos (nI_le (by omega) (by omega))]
    rfl
  | succ k ih =>
    intro i fuel h1 h2
    obtain ⟨fuel, rfl⟩ : ∃ q, fuel = q + 1 := ⟨fuel - 1, by omega⟩
    rw [fX12_tipsAt_b6]
    simp (disch := first | assumption | omega | rfl | exact And.intro (by omega) (by omega)) only [mck, mg_0, mp_0, mr_1, mg_2, mp_2, mr_3, mg_4, mp_4, mr_5, mr_6, mr_7, mr_8, mr_9, mg_10, mp_10, mg_11, mp_11, mg_12, mp_12, mg_13, mp_13, mg_14, mp_14, mg_15, mp_15, mg_16, mp_16, mg_17, mp_17, mg_18, mp_18, mg_19, mp_19, mg_20, mp_20, mr_21, mr_22, mr_23, mr_24, mr_25, mr_26, mr_27, mr_28, mr_29, mr_30, mr_31, mr_32, mg_33, mp_33, mr_34, mr_35, mr_36, mr_37, mr_38, mg_39, mp_39, mr_40, mr_41, mr_42, mg_43, mp_43, mr_44, mr_45, mg_46, mp_46, mr_47, mr_48, mg_49, mp_49, mg_50, mp_50, mg_51, mp_51, mr_52, mr_53, mr_54, mg_55, mp_55, mr_56, mr_57, mg_58, mp_58, mg_59, mp_59, mg_60, mp_60, mr_61, mg_62, mp_62, mr_63, mr_64, mr_65, mr_66, mr_67, mr_68, ma_1, ms_1, ma_2, ms_2, ma_3, ms_3, ma_4, ms_4, ma_5, ms_5, ma_6, ms_6, ma_7, ms_7, ma_8, ms_8, ma_9, ms_9, ma_10, ms_10, ma_11, ms_11, ma_12, ms_12, ma_13, ms_13, ma_14, ms_14, ma_15, ms_15, ma_16, ms_16, ma_17, ms_17, ma_18, ms_18, ma_19, ms_19, ma_20, ms_20, ma_21, ms_21, ma_22, ms_22, ma_23, ms_23, ma_24, ms_24, ma_25, ms_25, ma_26, ms_26, ma_27, ms_27, ma_28, ms_28, ma_29, ms_29, ma_30, ms_30, ma_31, ms_31, ma_32, ms_32, ma_33, ms_33, ma_34, ms_34, ma_35, ms_35, ma_36, ms_36, ma_37, ms_37, ma_38, ms_38, ma_39, ms_39, ma_40, ms_40, ma_41, ms_41, ma_42, ms_42, ma_43, ms_43, if_true, if_false, Option.bind_some, cb, lt, nI_1, hs_nar2, nh4, upd_at, vau_at, ma_30_18, ms_30_18, ma_31_18, ms_31_18, ma_28_0, ms_28_0, ma_28_1, ms_28_1, ma_28_2, ms_28_2, ma_28_3, ms_28_3, ma_28_4, ms_28_4, ma_42_0, ms_42_0, ma_42_1, ms_42_1, ma_42_2, ms_42_2, ma_36_0, ms_36_0, hs]
    rw [if_neg (nI_ge (by omega) (by omega)), m_isStanding h hM hL (by omega)]
    simp (disch := first | assumption | omega | rfl | exact And.intro (by omega) (by omega)) only [mck, mg_0, mp_0, mr_1, mg_2, mp_2, mr_3, mg_4, mp_4, mr_5, mr_6, mr_7, mr_8, mr_9, mg_10, mp_10, mg_11, mp_11, mg_12, mp_12, mg_13, mp_13, mg_14, mp_14, mg_15, mp_15, mg_16, mp_16, mg_17, mp_17, mg_18, mp_18, mg_19, mp_19, mg_20, mp_20, mr_21, mr_22, mr_23, mr_24, mr_25, mr_26, mr_27, mr_28, mr_29, mr_30, mr_31, mr_32, mg_33, mp_33, mr_34, mr_35, mr_36, mr_37, mr_38, mg_39, mp_39, mr_40, mr_41, mr_42, mg_43, mp_43, mr_44, mr_45, mg_46, mp_46, mr_47, mr_48, mg_49, mp_49, mg_50, mp_50, mg_51, mp_51, mr_52, mr_53, mr_54, mg_55, mp_55, mr_56, mr_57, mg_58, mp_58, mg_59, mp_59, mg_60, mp_60, mr_61, mg_62, mp_62, mr_63, mr_64, mr_65, mr_66, mr_67, mr_68, ma_1, ms_1, ma_2, ms_2, ma_3, ms_3, ma_4, ms_4, ma_5, ms_5, ma_6, ms_6, ma_7, ms_7, ma_8, ms_8, ma_9, ms_9, ma_10, ms_10, ma_11, ms_11, ma_12, ms_12, ma_13, ms_13, ma_14, ms_14, ma_15, ms_15, ma_16, ms_16, ma_17, ms_17, ma_18, ms_18, ma_19, ms_19, ma_20, ms_20, ma_21, ms_21, ma_22, ms_22, ma_23, ms_23, ma_24, ms_24, ma_25, ms_25, ma_26, ms_26, ma_27, ms_27, ma_28, ms_28, ma_29, ms_29, ma_30, ms_30, ma_31, ms_31, ma_32, ms_32, ma_33, ms_33, ma_34, ms_34, ma_35, ms_35, ma_36, ms_36, ma_37, ms_37, ma_38, ms_38, ma_39, ms_39, ma_40, ms_40, ma_41, ms_41, ma_42, ms_42, ma_43, ms_43, if_true, if_false, Option.bind_some, cb, lt, nI_1, hs_nar2, nh4, upd_at, vau_at, ma_30_18, ms_30_18, ma_31_18, ms_31_18, ma_28_0, ms_28_0, ma_28_1, ms_28_1, ma_28_2, ms_28_2, ma_28_3, ms_28_3, ma_28_4, ms_28_4, ma_42_0, ms_42_0, ma_42_1, ms_42_1, ma_42_2, ms_42_2, ma_36_0, ms_36_0, fal]
    have e : stB T P (ld T tr mb mw P i) (mo T tr mb mw ma P i) i = stAt T tr mb mw ma P i := rfl
    rw [e]
    cases hq : stAt T tr mb mw ma P i with
    | false => rfl
    | true => exact ih (i + 1) fuel (by omega) (by omega)
theorem m_tipsAt {F : Nat → Int32} {A : Nat → Nat → Int32} (B : Nat → Nat → Int64) {lv : Nat} {T : TD} {tr : Nat → Int} {P : AP} {mb mw ma : Int} (hR : MRow F A lv T tr P) (hM : More F mb mw ma) : ∃ F' A' B', fX12_tipsAt 0 (mkM F A B) = some (rF (-2) (fal (stAt T tr mb mw ma P) P.1 0), mkM F' A' B') ∧ MS F F' A A' B B' ∧ MLd B' T tr mb mw ma P := by
  obtain ⟨F', A', B', h1, h2, h3⟩ := m_fillsLoads B hR hM
  refine ⟨F', A', B', ?_, h2, h3⟩
  unfold fX12_tipsAt
  simp (disch := first | assumption | omega | rfl | exact And.intro (by omega) (by omega)) only [mck, mg_0, mp_0, mr_1, mg_2, mp_2, mr_3, mg_4, mp_4, mr_5, mr_6, mr_7, mr_8, mr_9, mg_10, mp_10, mg_11, mp_11, mg_12, mp_12, mg_13, mp_13, mg_14, mp_14, mg_15, mp_15, mg_16, mp_16, mg_17, mp_17, mg_18, mp_18, mg_19, mp_19, mg_20, mp_20, mr_21, mr_22, mr_23, mr_24, mr_25, mr_26, mr_27, mr_28, mr_29, mr_30, mr_31, mr_32, mg_33, mp_33, mr_34, mr_35, mr_36, mr_37, mr_38, mg_39, mp_39, mr_40, mr_41, mr_42, mg_43, mp_43, mr_44, mr_45, mg_46, mp_46, mr_47, mr_48, mg_49, mp_49, mg_50, mp_50, mg_51, mp_51, mr_52, mr_53, mr_54, mg_55, mp_55, mr_56, mr_57, mg_58, mp_58, mg_59, mp_59, mg_60, mp_60, mr_61, mg_62, mp_62, mr_63, mr_64, mr_65, mr_66, mr_67, mr_68, ma_1, ms_1, ma_2, ms_2, ma_3, ms_3, ma_4, ms_4, ma_5, ms_5, ma_6, ms_6, ma_7, ms_7, ma_8, ms_8, ma_9, ms_9, ma_10, ms_10, ma_11, ms_11, ma_12, ms_12, ma_13, ms_13, ma_14, ms_14, ma_15, ms_15, ma_16, ms_16, ma_17, ms_17, ma_18, ms_18, ma_19, ms_19, ma_20, ms_20, ma_21, ms_21, ma_22, ms_22, ma_23, ms_23, ma_24, ms_24, ma_25, ms_25, ma_26, ms_26, ma_27, ms_27, ma_28, ms_28, ma_29, ms_29, ma_30, ms_30, ma_31, ms_31, ma_32, ms_32, ma_33, ms_33, ma_34, ms_34, ma_35, ms_35, ma_36, ms_36, ma_37, ms_37, ma_38, ms_38, ma_39, ms_39, ma_40, ms_40, ma_41, ms_41, ma_42, ms_42, ma_43, ms_43, if_true, if_false, Option.bind_some, cb, lt, nI_1, hs_nar2, nh4, upd_at, vau_at, ma_30_18, ms_30_18, ma_31_18, ms_31_18, ma_28_0, ms_28_0, ma_28_1, ms_28_1, ma_28_2, ms_28_2, ma_28_3, ms_28_3, ma_28_4, ms_28_4, ma_42_0, ms_42_0, ma_42_1, ms_42_1, ma_42_2, ms_42_2, ma_36_0, ms_36_0, h1]
  have h6 := hR.2.2.1.2.1
  exact m_tips (hR.ms h2) (hM.ms h2) h3 P.1 0 FU (by omega) (by unfold FU; omega)
