/-! ===== the model cuts ===== -/
section CU
variable {F : Nat → Int32} {A : Nat → Nat → Int32} {B : Nat → Nat → Int64} {f : Nat → Nat} {L : Nat}
theorem m_byteAt (hL : L ≤ 2000) (h4 : F 4 = nI L) (hA : ∀ j, j < L → A 2 j &&& 255 = nI (f j)) {i : Nat} (hi : i < 2 ^ 30) : fX12_byteAt 0 (nI i) (mkM F A B) = some (nI (if i < L then f i else 0), mkM F A B) := by
  unfold fX12_byteAt
  simp -implicitDefEqProofs (disch := first | assumption | omega | decide | exact And.intro (by omega) (by omega)) only [mck, mg_0, mp_0, mr_1, mg_2, mp_2, mr_3, mg_4, mp_4, mr_5, mr_6, mr_7, mr_8, mr_9, mg_10, mp_10, mg_11, mp_11, mg_12, mp_12, mg_13, mp_13, mg_14, mp_14, mg_15, mp_15, mg_16, mp_16, mg_17, mp_17, mg_18, mp_18, mg_19, mp_19, mg_20, mp_20, mr_21, mr_22, mr_23, mr_24, mr_25, mr_26, mr_27, mr_28, mr_29, mr_30, mr_31, mr_32, mg_33, mp_33, mr_34, mr_35, mr_36, mr_37, mr_38, mg_39, mp_39, mr_40, mr_41, mr_42, mg_43, mp_43, mr_44, mr_45, mg_46, mp_46, mr_47, mr_48, mg_49, mp_49, mg_50, mp_50, mg_51, mp_51, mr_52, mr_53, mr_54, mg_55, mp_55, mr_56, mr_57, mg_58, mp_58, mg_59, mp_59, mg_60, mp_60, mr_61, mg_62, mp_62, mr_63, mr_64, mr_65, mr_66, mr_67, mr_68, ma_1, ms_1, ma_2, ms_2, ma_3, ms_3, ma_4, ms_4, ma_5, ms_5, ma_6, ms_6, ma_7, ms_7, ma_8, ms_8, ma_9, ms_9, ma_10, ms_10, ma_11, ms_11, ma_12, ms_12, ma_13, ms_13, ma_14, ms_14, ma_15, ms_15, ma_16, ms_16, ma_17, ms_17, ma_18, ms_18, ma_19, ms_19, ma_20, ms_20, ma_21, ms_21, ma_22, ms_22, ma_23, ms_23, ma_24, ms_24, ma_25, ms_25, ma_26, ms_26, ma_27, ms_27, ma_28, ms_28, ma_29, ms_29, ma_30, ms_30, ma_31, ms_31, ma_32, ms_32, ma_33, ms_33, ma_34, ms_34, ma_35, ms_35, ma_36, ms_36, ma_37, ms_37, ma_38, ms_38, ma_39, ms_39, ma_40, ms_40, ma_41, ms_41, ma_42, ms_42, ma_43, ms_43, if_true, if_false, Option.bind_some, cb_e, lt_e, nI_1, hs_nar2, nh4, upd_at, vau_at, ma_30_18, ms_30_18, ma_31_18, ms_31_18, ma_28_0, ms_28_0, ma_28_1, ms_28_1, ma_28_2, ms_28_2, ma_28_3, ms_28_3, ma_28_4, ms_28_4, ma_42_0, ms_42_0, ma_42_1, ms_42_1, ma_42_2, ms_42_2, ma_36_0, ms_36_0, h4]
  by_cases c : i < L
  · have ha := hA i c
    have hi2 : i < 2000 := by omega
    rw [if_neg (nI_ge c (by omega)), if_pos c]
    simp -implicitDefEqProofs (disch := first | assumption | omega | decide | exact And.intro (by omega) (by omega)) only [mck, mg_0, mp_0, mr_1, mg_2, mp_2, mr_3, mg_4, mp_4, mr_5, mr_6, mr_7, mr_8, mr_9, mg_10, mp_10, mg_11, mp_11, mg_12, mp_12, mg_13, mp_13, mg_14, mp_14, mg_15, mp_15, mg_16, mp_16, mg_17, mp_17, mg_18, mp_18, mg_19, mp_19, mg_20, mp_20, mr_21, mr_22, mr_23, mr_24, mr_25, mr_26, mr_27, mr_28, mr_29, mr_30, mr_31, mr_32, mg_33, mp_33, mr_34, mr_35, mr_36, mr_37, mr_38, mg_39, mp_39, mr_40, mr_41, mr_42, mg_43, mp_43, mr_44, mr_45, mg_46, mp_46, mr_47, mr_48, mg_49, mp_49, mg_50, mp_50, mg_51, mp_51, mr_52, mr_53, mr_54, mg_55, mp_55, mr_56, mr_57, mg_58, mp_58, mg_59, mp_59, mg_60, mp_60, mr_61, mg_62, mp_62, mr_63, mr_64, mr_65, mr_66, mr_67, mr_68, ma_1, ms_1, ma_2, ms_2, ma_3, ms_3, ma_4, ms_4, ma_5, ms_5, ma_6, ms_6, ma_7, ms_7, ma_8, ms_8, ma_9, ms_9, ma_10, ms_10, ma_11, ms_11, ma_12, ms_12, ma_13, ms_13, ma_14, ms_14, ma_15, ms_15, ma_16, ms_16, ma_17, ms_17, ma_18, ms_18, ma_19, ms_19, ma_20, ms_20, ma_21, ms_21, ma_22, ms_22, ma_23, ms_23, ma_24, ms_24, ma_25, ms_25, ma_26, ms_26, ma_27, ms_27, ma_28, ms_28, ma_29, ms_29, ma_30, ms_30, ma_31, ms_31, ma_32, ms_32, ma_33, ms_33, ma_34, ms_34, ma_35, ms_35, ma_36, ms_36, ma_37, ms_37, ma_38, ms_38, ma_39, ms_39, ma_40, ms_40, ma_41, ms_41, ma_42, ms_42, ma_43, ms_43, if_true, if_false, Option.bind_some, cb_e, lt_e, nI_1, hs_nar2, nh4, upd_at, vau_at, ma_30_18, ms_30_18, ma_31_18, ms_31_18, ma_28_0, ms_28_0, ma_28_1, ms_28_1, ma_28_2, ms_28_2, ma_28_3, ms_28_3, ma_28_4, ms_28_4, ma_42_0, ms_42_0, ma_42_1, ms_42_1, ma_42_2, ms_42_2, ma_36_0, ms_36_0, ha]
  · rw [if_pos (nI_le (by omega) (by omega)), if_neg c]
    rfl
def tkM (A : Nat → Nat → Int32) (B : Nat → Nat → Int64) (n p : Nat) (tk : Nat × Nat × List Nat) : Prop := A 3 n = nI (mkk tk.1) ∧ A 4 n = nI p ∧ (tk.1 = 17 → A 5 n = nI tk.2.1) ∧ (tk.1 = 16 → B 6 n = jN (cN 27 tk.2.2))
/-- only token n was written -/
def OnT (n : Nat) (A A' : Nat → Nat → Int32) (B B' : Nat → Nat → Int64) : Prop := (∀ j, ¬ j = n → A' 3 j = A 3 j ∧ A' 4 j = A 4 j ∧ A' 5 j = A 5 j ∧ B' 6 j = B 6 j) ∧ (∀ c, ¬ c = 3 → ¬ c = 4 → ¬ c = 5 → A' c = A c) ∧ ∀ c, ¬ c = 6 → B' c = B c
theorem m_token {n : Nat} (hn : n ≤ 401) (h10 : F 10 = nI n) (k p v : Nat) (x : Int64) (tk : Nat × Nat × List Nat) (h1 : k = mkk tk.1) (h2 : tk.1 = 17 → v = tk.2.1) (h3 : tk.1 = 16 → x = jN (cN 27 tk.2.2)) : ∃ A' B', fX12_token 0 (nI k) (nI p) (nI v) x (mkM F A B) = some ((), mkM (upd F 10 (nI (n + 1))) A' B') ∧ tkM A' B' n p tk ∧ OnT n A A' B B' := by
  have hn2 : n < 403 := by omega
  unfold fX12_token
  simp -implicitDefEqProofs (disch := first | assumption | omega | decide | exact And.intro (by omega) (by omega)) only [mck, mg_0, mp_0, mr_1, mg_2, mp_2, mr_3, mg_4, mp_4, mr_5, mr_6, mr_7, mr_8, mr_9, mg_10, mp_10, mg_11, mp_11, mg_12, mp_12, mg_13, mp_13, mg_14, mp_14, mg_15, mp_15, mg_16, mp_16, mg_17, mp_17, mg_18, mp_18, mg_19, mp_19, mg_20, mp_20, mr_21, mr_22, mr_23, mr_24, mr_25, mr_26, mr_27, mr_28, mr_29, mr_30, mr_31, mr_32, mg_33, mp_33, mr_34, mr_35, mr_36, mr_37, mr_38, mg_39, mp_39, mr_40, mr_41, mr_42, mg_43, mp_43, mr_44, mr_45, mg_46, mp_46, mr_47, mr_48, mg_49, mp_49, mg_50, mp_50, mg_51, mp_51, mr_52, mr_53, mr_54, mg_55, mp_55, mr_56, mr_57, mg_58, mp_58, mg_59, mp_59, mg_60, mp_60, mr_61, mg_62, mp_62, mr_63, mr_64, mr_65, mr_66, mr_67, mr_68, ma_1, ms_1, ma_2, ms_2, ma_3, ms_3, ma_4, ms_4, ma_5, ms_5, ma_6, ms_6, ma_7, ms_7, ma_8, ms_8, ma_9, ms_9, ma_10, ms_10, ma_11, ms_11, ma_12, ms_12, ma_13, ms_13, ma_14, ms_14, ma_15, ms_15, ma_16, ms_16, ma_17, ms_17, ma_18, ms_18, ma_19, ms_19, ma_20, ms_20, ma_21, ms_21, ma_22, ms_22, ma_23, ms_23, ma_24, ms_24, ma_25, ms_25, ma_26, ms_26, ma_27, ms_27, ma_28, ms_28, ma_29, ms_29, ma_30, ms_30, ma_31, ms_31, ma_32, ms_32, ma_33, ms_33, ma_34, ms_34, ma_35, ms_35, ma_36, ms_36, ma_37, ms_37, ma_38, ms_38, ma_39, ms_39, ma_40, ms_40, ma_41, ms_41, ma_42, ms_42, ma_43, ms_43, if_true, if_false, Option.bind_some, cb_e, lt_e, nI_1, hs_nar2, nh4, upd_at, vau_at, ma_30_18, ms_30_18, ma_31_18, ms_31_18, ma_28_0, ms_28_0, ma_28_1, ms_28_1, ma_28_2, ms_28_2, ma_28_3, ms_28_3, ma_28_4, ms_28_4, ma_42_0, ms_42_0, ma_42_1, ms_42_1, ma_42_2, ms_42_2, ma_36_0, ms_36_0, h10, vau_ne]
  refine ⟨_, _, rfl, ⟨by rw [vau_ne (by decide), vau_ne (by decide), vau_at, upd_at, h1], by rw [vau_ne (by decide), vau_at, upd_at], fun q => by rw [vau_at, upd_at, h2 q], fun q => by rw [vau_at, updL_at, h3 q]⟩, ⟨fun j hj => ⟨by rw [vau_ne (by decide), vau_ne (by decide), vau_at, upd_ne hj], by rw [vau_ne (by decide), vau_at, upd_ne hj], by rw [vau_at, upd_ne hj], by rw [vau_at, updL_ne hj]⟩, fun c q1 q2 q3 => by rw [vau_ne q3, vau_ne q2, vau_ne q1], fun c q => vau_ne q⟩⟩
theorem app_m {a c : Nat} (hc : 97 ≤ c) (hc2 : c < 256) (σ : Sto) : fX12_appends (jN a) (nI c) σ = some (jN (27 * a + (c - 96)), σ) := by
  have e : nI c - 97 + 1 = nI (c - 96) := by
    have q : nI c - nI 97 = nI (c - 97) := pk_sub hc
    rw [show (97 : Int32) = nI 97 from rfl, q, nI_1]
    congr 1
    omega
  unfold fX12_appends
  rw [if_neg (nI_ne0 (by omega) (by omega)), e, nI_jJ (by omega), show (27 : Int64) = jN 27 from rfl, jN_mul, jN_add]
theorem m_sign {c : Nat} (hc : c < 256) (a1 a3 : Int32) : fX12_sign 0 a1 (nI c) a3 (mkM F A B) = fX12_sign_b95 0 a1 (nI (mkk (sgk c))) (mkM F A B) := by
  unfold fX12_sign
  rw [mck]
  by_cases h1 : c = 59
  · subst h1; rfl
  by_cases h2 : c = 61
  · subst h2; rfl
  by_cases h3 : c = 40
  · subst h3; rfl
  by_cases h4 : c = 41
  · subst h4; rfl
  by_cases h5 : c = 43
  · subst h5; rfl
  by_cases h6 : c = 45
  · subst h6; rfl
  by_cases h7 : c = 42
  · subst h7; rfl
  by_cases h8 : c = 47
  · subst h8; rfl
  by_cases h9 : c = 60
  · subst h9; rfl
  have hk : sgk c = 19 := by
    unfold sgk
    rw [if_neg (by simp; omega)]
  have g : ∀ (d : Nat), d < 256 → ¬ c = d → ¬ nI c = nI d := fun d hd q z => q ((nI_eq (by omega) (by omega)).1 z)
  unfold fX12_sign_b43 fX12_sign_b55 fX12_sign_b65 fX12_sign_b75 fX12_sign_b85
  rw [if_neg (show ¬ nI c = (59 : Int32) from g 59 (by decide) h1), if_neg (show ¬ nI c = (61 : Int32) from g 61 (by decide) h2), if_neg (show ¬ nI c = (40 : Int32) from g 40 (by decide) h3), if_neg (show ¬ nI c = (41 : Int32) from g 41 (by decide) h4), if_neg (show ¬ nI c = (43 : Int32) from g 43 (by decide) h5), if_neg (show ¬ nI c = (45 : Int32) from g 45 (by decide) h6), if_neg (show ¬ nI c = (42 : Int32) from g 42 (by decide) h7), if_neg (show ¬ nI c = (47 : Int32) from g 47 (by decide) h8), if_neg (show ¬ nI c = (60 : Int32) from g 60 (by decide) h9), hk]
  rfl
theorem m_ttoken (hL : L ≤ 2000) (h4 : F 4 = nI L) (hA : ∀ j, j < L → A 2 j &&& 255 = nI (f j)) (hf : ∀ j, f j < 256) (hW : B 7 = keysM) {i e n fuel : Nat} (h : RunE f L i e) (hb : isB (f i) = false) (h10 : F 10 = nI n) (hn : n ≤ 400) : ∃ A' B', fX12_cut_b7 (fuel + 1) 0 (nI i) (mkM F A B) = fX12_cut_b7 fuel 0 (nI e) (mkM (upd F 10 (nI (n + 1))) A' B') ∧ tkM A' B' n i (tokAt f i e) ∧ OnT n A A' B B' := by
  have h0 := h.1
  have h1 := h.2.1
  have hiL : i < L := by omega
  have ba := m_byteAt (F := F) (A := A) (B := B) hL h4 hA (i := i) (by omega)
  rw [if_pos hiL] at ba
  have l1 := (x_isL (hf i) (mkM F A B)).2
  have d1 := (x_isD (hf i) (mkM F A B)).2
  have nb := of_decide_eq_false hb
  have g : ∀ (d : Nat), d < 256 → ¬ f i = d → ¬ nI (f i) = nI d := fun d hd q z => q ((nI_eq (by have := hf i; omega) (by omega)).1 z)
  have n400 : ¬ (400 : Int32) < nI n := nI_nlt (a := 400) hn (by decide)
  have ilt : nI i < nI L := nI_lt hiL (by omega)
  have ne9 : ¬ nI (f i) = (9 : Int32) := g 9 (by decide) (by omega)
  have ne10 : ¬ nI (f i) = (10 : Int32) := g 10 (by decide) (by omega)
  have ne13 : ¬ nI (f i) = (13 : Int32) := g 13 (by decide) (by omega)
  have ne32 : ¬ nI (f i) = (32 : Int32) := g 32 (by decide) (by omega)
  have eadd : nI i + nI (e - i) = nI e := by
    rw [nI_add]
    congr 1
    omega
  rw [fX12_cut_b7]
  simp -implicitDefEqProofs (disch := first | assumption | omega | decide | exact And.intro (by omega) (by omega)) only [mck, mg_0, mp_0, mr_1, mg_2, mp_2, mr_3, mg_4, mp_4, mr_5, mr_6, mr_7, mr_8, mr_9, mg_10, mp_10, mg_11, mp_11, mg_12, mp_12, mg_13, mp_13, mg_14, mp_14, mg_15, mp_15, mg_16, mp_16, mg_17, mp_17, mg_18, mp_18, mg_19, mp_19, mg_20, mp_20, mr_21, mr_22, mr_23, mr_24, mr_25, mr_26, mr_27, mr_28, mr_29, mr_30, mr_31, mr_32, mg_33, mp_33, mr_34, mr_35, mr_36, mr_37, mr_38, mg_39, mp_39, mr_40, mr_41, mr_42, mg_43, mp_43, mr_44, mr_45, mg_46, mp_46, mr_47, mr_48, mg_49, mp_49, mg_50, mp_50, mg_51, mp_51, mr_52, mr_53, mr_54, mg_55, mp_55, mr_56, mr_57, mg_58, mp_58, mg_59, mp_59, mg_60, mp_60, mr_61, mg_62, mp_62, mr_63, mr_64, mr_65, mr_66, mr_67, mr_68, ma_1, ms_1, ma_2, ms_2, ma_3, ms_3, ma_4, ms_4, ma_5, ms_5, ma_6, ms_6, ma_7, ms_7, ma_8, ms_8, ma_9, ms_9, ma_10, ms_10, ma_11, ms_11, ma_12, ms_12, ma_13, ms_13, ma_14, ms_14, ma_15, ms_15, ma_16, ms_16, ma_17, ms_17, ma_18, ms_18, ma_19, ms_19, ma_20, ms_20, ma_21, ms_21, ma_22, ms_22, ma_23, ms_23, ma_24, ms_24, ma_25, ms_25, ma_26, ms_26, ma_27, ms_27, ma_28, ms_28, ma_29, ms_29, ma_30, ms_30, ma_31, ms_31, ma_32, ms_32, ma_33, ms_33, ma_34, ms_34, ma_35, ms_35, ma_36, ms_36, ma_37, ms_37, ma_38, ms_38, ma_39, ms_39, ma_40, ms_40, ma_41, ms_41, ma_42, ms_42, ma_43, ms_43, if_true, if_false, Option.bind_some, cb_e, lt_e, nI_1, hs_nar2, nh4, upd_at, vau_at, ma_30_18, ms_30_18, ma_31_18, ms_31_18, ma_28_0, ms_28_0, ma_28_1, ms_28_1, ma_28_2, ms_28_2, ma_28_3, ms_28_3, ma_28_4, ms_28_4, ma_42_0, ms_42_0, ma_42_1, ms_42_1, ma_42_2, ms_42_2, ma_36_0, ms_36_0, h10, if_neg n400, ba, h4, if_pos ilt, if_neg ne9, if_neg ne10, if_neg ne13, if_neg ne32, l1]
  cases hl : isL (f i) with
  | true =>
    rw [if_neg b2t]
    have hlet := h.let hl
    have lp : ∀ k j fu, j + k = e - i → k < fu → fX12_cut_b85 (fX12_cut_b7 fuel) fu 0 (nI i) (nI j) (jN (cN 27 (ltr f i (min j 8)))) (mkM F A B) = fX12_cut_b124 (fX12_cut_b7 fuel) 0 (nI i) (nI (e - i)) (jN (cN 27 (ltr f i (min (e - i) 8)))) (mkM F A B) := by
      intro k
      induction k with
      | zero =>
        intro j fu q1 q2
        obtain ⟨fu, rfl⟩ : ∃ q, fu = q + 1 := ⟨fu - 1, by omega⟩
        have : j = e - i := by omega
        subst this
        have bb := m_byteAt (F := F) (A := A) (B := B) hL h4 hA (i := e) (by omega)
        have hle : isL (if e < L then f e else 0) = false := by
          by_cases c : e < L
          · rw [if_pos c]
            have := h.2.2.2 c
            unfold pr at this
            rw [if_pos hl] at this
            exact this
          · rw [if_neg c]; rfl
        have l2 := (x_isL (c := if e < L then f e else 0) (by split; exact hf e; decide) (mkM F A B)).2
        rw [hle] at l2
        rw [fX12_cut_b85]
        simp -implicitDefEqProofs (disch := first | assumption | omega | decide | exact And.intro (by omega) (by omega)) only [mck, mg_0, mp_0, mr_1, mg_2, mp_2, mr_3, mg_4, mp_4, mr_5, mr_6, mr_7, mr_8, mr_9, mg_10, mp_10, mg_11, mp_11, mg_12, mp_12, mg_13, mp_13, mg_14, mp_14, mg_15, mp_15, mg_16, mp_16, mg_17, mp_17, mg_18, mp_18, mg_19, mp_19, mg_20, mp_20, mr_21, mr_22, mr_23, mr_24, mr_25, mr_26, mr_27, mr_28, mr_29, mr_30, mr_31, mr_32, mg_33, mp_33, mr_34, mr_35, mr_36, mr_37, mr_38, mg_39, mp_39, mr_40, mr_41, mr_42, mg_43, mp_43, mr_44, mr_45, mg_46, mp_46, mr_47, mr_48, mg_49, mp_49, mg_50, mp_50, mg_51, mp_51, mr_52, mr_53, mr_54, mg_55, mp_55, mr_56, mr_57, mg_58, mp_58, mg_59, mp_59, mg_60, mp_60, mr_61, mg_62, mp_62, mr_63, mr_64, mr_65, mr_66, mr_67, mr_68, ma_1, ms_1, ma_2, ms_2, ma_3, ms_3, ma_4, ms_4, ma_5, ms_5, ma_6, ms_6, ma_7, ms_7, ma_8, ms_8, ma_9, ms_9, ma_10, ms_10, ma_11, ms_11, ma_12, ms_12, ma_13, ms_13, ma_14, ms_14, ma_15, ms_15, ma_16, ms_16, ma_17, ms_17, ma_18, ms_18, ma_19, ms_19, ma_20, ms_20, ma_21, ms_21, ma_22, ms_22, ma_23, ms_23, ma_24, ms_24, ma_25, ms_25, ma_26, ms_26, ma_27, ms_27, ma_28, ms_28, ma_29, ms_29, ma_30, ms_30, ma_31, ms_31, ma_32, ms_32, ma_33, ms_33, ma_34, ms_34, ma_35, ms_35, ma_36, ms_36, ma_37, ms_37, ma_38, ms_38, ma_39, ms_39, ma_40, ms_40, ma_41, ms_41, ma_42, ms_42, ma_43, ms_43, if_true, if_false, Option.bind_some, cb_e, lt_e, nI_1, hs_nar2, nh4, upd_at, vau_at, ma_30_18, ms_30_18, ma_31_18, ms_31_18, ma_28_0, ms_28_0, ma_28_1, ms_28_1, ma_28_2, ms_28_2, ma_28_3, ms_28_3, ma_28_4, ms_28_4, ma_42_0, ms_42_0, ma_42_1, ms_42_1, ma_42_2, ms_42_2, ma_36_0, ms_36_0, eadd, bb, l2, if_pos b2f]
      | succ k ih =>
        intro j fu q1 q2
        obtain ⟨fu, rfl⟩ : ∃ q, fu = q + 1 := ⟨fu - 1, by omega⟩
        have hj := hlet j (by omega)
        have hj2 := of_decide_eq_true hj
        have bb := m_byteAt (F := F) (A := A) (B := B) hL h4 hA (i := i + j) (by omega)
        rw [if_pos (by omega)] at bb
        have l2 := (x_isL (hf (i + j)) (mkM F A B)).2
        rw [hj] at l2
        have e2 := ih (j + 1) fu (by omega) (by omega)
        rw [fX12_cut_b85]
        simp -implicitDefEqProofs (disch := first | assumption | omega | decide | exact And.intro (by omega) (by omega)) only [mck, mg_0, mp_0, mr_1, mg_2, mp_2, mr_3, mg_4, mp_4, mr_5, mr_6, mr_7, mr_8, mr_9, mg_10, mp_10, mg_11, mp_11, mg_12, mp_12, mg_13, mp_13, mg_14, mp_14, mg_15, mp_15, mg_16, mp_16, mg_17, mp_17, mg_18, mp_18, mg_19, mp_19, mg_20, mp_20, mr_21, mr_22, mr_23, mr_24, mr_25, mr_26, mr_27, mr_28, mr_29, mr_30, mr_31, mr_32, mg_33, mp_33, mr_34, mr_35, mr_36, mr_37, mr_38, mg_39, mp_39, mr_40, mr_41, mr_42, mg_43, mp_43, mr_44, mr_45, mg_46, mp_46, mr_47, mr_48, mg_49, mp_49, mg_50, mp_50, mg_51, mp_51, mr_52, mr_53, mr_54, mg_55, mp_55, mr_56, mr_57, mg_58, mp_58, mg_59, mp_59, mg_60, mp_60, mr_61, mg_62, mp_62, mr_63, mr_64, mr_65, mr_66, mr_67, mr_68, ma_1, ms_1, ma_2, ms_2, ma_3, ms_3, ma_4, ms_4, ma_5, ms_5, ma_6, ms_6, ma_7, ms_7, ma_8, ms_8, ma_9, ms_9, ma_10, ms_10, ma_11, ms_11, ma_12, ms_12, ma_13, ms_13, ma_14, ms_14, ma_15, ms_15, ma_16, ms_16, ma_17, ms_17, ma_18, ms_18, ma_19, ms_19, ma_20, ms_20, ma_21, ms_21, ma_22, ms_22, ma_23, ms_23, ma_24, ms_24, ma_25, ms_25, ma_26, ms_26, ma_27, ms_27, ma_28, ms_28, ma_29, ms_29, ma_30, ms_30, ma_31, ms_31, ma_32, ms_32, ma_33, ms_33, ma_34, ms_34, ma_35, ms_35, ma_36, ms_36, ma_37, ms_37, ma_38, ms_38, ma_39, ms_39, ma_40, ms_40, ma_41, ms_41, ma_42, ms_42, ma_43, ms_43, if_true, if_false, Option.bind_some, cb_e, lt_e, nI_1, hs_nar2, nh4, upd_at, vau_at, ma_30_18, ms_30_18, ma_31_18, ms_31_18, ma_28_0, ms_28_0, ma_28_1, ms_28_1, ma_28_2, ms_28_2, ma_28_3, ms_28_3, ma_28_4, ms_28_4, ma_42_0, ms_42_0, ma_42_1, ms_42_1, ma_42_2, ms_42_2, ma_36_0, ms_36_0, nI_add, bb, l2, if_neg b2t]
        unfold fX12_cut_b118
        by_cases c8 : 8 ≤ j
        · rw [if_pos (show (8 : Int32) ≤ nI j from nI_le (a := 8) c8 (by omega)), nI_1]
          rw [show min (j + 1) 8 = min j 8 by omega] at e2
          exact e2
        · have ap := app_m (a := cN 27 (ltr f i (min j 8))) (c := f (i + j)) hj2.1 (hf _) (mkM F A B)
          rw [if_neg (show ¬ (8 : Int32) ≤ nI j from nI_ge (b := 8) (by omega) (by decide))]
          simp -implicitDefEqProofs (disch := first | assumption | omega | decide | exact And.intro (by omega) (by omega)) only [mck, mg_0, mp_0, mr_1, mg_2, mp_2, mr_3, mg_4, mp_4, mr_5, mr_6, mr_7, mr_8, mr_9, mg_10, mp_10, mg_11, mp_11, mg_12, mp_12, mg_13, mp_13, mg_14, mp_14, mg_15, mp_15, mg_16, mp_16, mg_17, mp_17, mg_18, mp_18, mg_19, mp_19, mg_20, mp_20, mr_21, mr_22, mr_23, mr_24, mr_25, mr_26, mr_27, mr_28, mr_29, mr_30, mr_31, mr_32, mg_33, mp_33, mr_34, mr_35, mr_36, mr_37, mr_38, mg_39, mp_39, mr_40, mr_41, mr_42, mg_43, mp_43, mr_44, mr_45, mg_46, mp_46, mr_47, mr_48, mg_49, mp_49, mg_50, mp_50, mg_51, mp_51, mr_52, mr_53, mr_54, mg_55, mp_55, mr_56, mr_57, mg_58, mp_58, mg_59, mp_59, mg_60, mp_60, mr_61, mg_62, mp_62, mr_63, mr_64, mr_65, mr_66, mr_67, mr_68, ma_1, ms_1, ma_2, ms_2, ma_3, ms_3, ma_4, ms_4, ma_5, ms_5, ma_6, ms_6, ma_7, ms_7, ma_8, ms_8, ma_9, ms_9, ma_10, ms_10, ma_11, ms_11, ma_12, ms_12, ma_13, ms_13, ma_14, ms_14, ma_15, ms_15, ma_16, ms_16, ma_17, ms_17, ma_18, ms_18, ma_19, ms_19, ma_20, ms_20, ma_21, ms_21, ma_22, ms_22, ma_23, ms_23, ma_24, ms_24, ma_25, ms_25, ma_26, ms_26, ma_27, ms_27, ma_28, ms_28, ma_29, ms_29, ma_30, ms_30, ma_31, ms_31, ma_32, ms_32, ma_33, ms_33, ma_34, ms_34, ma_35, ms_35, ma_36, ms_36, ma_37, ms_37, ma_38, ms_38, ma_39, ms_39, ma_40, ms_40, ma_41, ms_41, ma_42, ms_42, ma_43, ms_43, if_true, if_false, Option.bind_some, cb_e, lt_e, nI_1, hs_nar2, nh4, upd_at, vau_at, ma_30_18, ms_30_18, ma_31_18, ms_31_18, ma_28_0, ms_28_0, ma_28_1, ms_28_1, ma_28_2, ms_28_2, ma_28_3, ms_28_3, ma_28_4, ms_28_4, ma_42_0, ms_42_0, ma_42_1, ms_42_1, ma_42_2, ms_42_2, ma_36_0, ms_36_0, bb, ap]
          rw [show min (j + 1) 8 = j + 1 by omega, ltr, cN] at e2
          rw [show min j 8 = j by omega]
          exact e2
    have e1 := lp (e - i) 0 FU (by omega) (by unfold FU; omega)
    have e1' : fX12_cut_b85 (fX12_cut_b7 fuel) FU 0 (nI i) 0 0 (mkM F A B) = _ := e1
    rw [e1']
    have b179 : ∀ kd tk, kd = mkk tk.1 → (tk.1 = 17 → 0 = tk.2.1) → (tk.1 = 16 → jN (cN 27 (ltr f i (min (e - i) 8))) = jN (cN 27 tk.2.2)) → tokAt f i e = tk → ∃ A' B', fX12_cut_b179 (fX12_cut_b7 fuel) 0 (nI i) (nI (e - i)) (jN (cN 27 (ltr f i (min (e - i) 8)))) (nI kd) (mkM F A B) = fX12_cut_b7 fuel 0 (nI e) (mkM (upd F 10 (nI (n + 1))) A' B') ∧ tkM A' B' n i (tokAt f i e) ∧ OnT n A A' B B' := by
      intro kd tk q1 q2 q3 q4
      obtain ⟨A', B', z1, z2, z3⟩ := m_token (F := F) (A := A) (B := B) (n := n) (by omega) h10 kd i 0 (jN (cN 27 (ltr f i (min (e - i) 8)))) tk q1 q2 q3
      have z1' : fX12_token 0 (nI kd) (nI i) 0 (jN (cN 27 (ltr f i (min (e - i) 8)))) (mkM F A B) = some ((), mkM (upd F 10 (nI (n + 1))) A' B') := z1
      refine ⟨A', B', ?_, by rw [q4]; exact z2, z3⟩
      unfold fX12_cut_b179 fX12_cut_b291
      simp -implicitDefEqProofs (disch := first | assumption | omega | decide | exact And.intro (by omega) (by omega)) only [mck, mg_0, mp_0, mr_1, mg_2, mp_2, mr_3, mg_4, mp_4, mr_5, mr_6, mr_7, mr_8, mr_9, mg_10, mp_10, mg_11, mp_11, mg_12, mp_12, mg_13, mp_13, mg_14, mp_14, mg_15, mp_15, mg_16, mp_16, mg_17, mp_17, mg_18, mp_18, mg_19, mp_19, mg_20, mp_20, mr_21, mr_22, mr_23, mr_24, mr_25, mr_26, mr_27, mr_28, mr_29, mr_30, mr_31, mr_32, mg_33, mp_33, mr_34, mr_35, mr_36, mr_37, mr_38, mg_39, mp_39, mr_40, mr_41, mr_42, mg_43, mp_43, mr_44, mr_45, mg_46, mp_46, mr_47, mr_48, mg_49, mp_49, mg_50, mp_50, mg_51, mp_51, mr_52, mr_53, mr_54, mg_55, mp_55, mr_56, mr_57, mg_58, mp_58, mg_59, mp_59, mg_60, mp_60, mr_61, mg_62, mp_62, mr_63, mr_64, mr_65, mr_66, mr_67, mr_68, ma_1, ms_1, ma_2, ms_2, ma_3, ms_3, ma_4, ms_4, ma_5, ms_5, ma_6, ms_6, ma_7, ms_7, ma_8, ms_8, ma_9, ms_9, ma_10, ms_10, ma_11, ms_11, ma_12, ms_12, ma_13, ms_13, ma_14, ms_14, ma_15, ms_15, ma_16, ms_16, ma_17, ms_17, ma_18, ms_18, ma_19, ms_19, ma_20, ms_20, ma_21, ms_21, ma_22, ms_22, ma_23, ms_23, ma_24, ms_24, ma_25, ms_25, ma_26, ms_26, ma_27, ms_27, ma_28, ms_28, ma_29, ms_29, ma_30, ms_30, ma_31, ms_31, ma_32, ms_32, ma_33, ms_33, ma_34, ms_34, ma_35, ms_35, ma_36, ms_36, ma_37, ms_37, ma_38, ms_38, ma_39, ms_39, ma_40, ms_40, ma_41, ms_41, ma_42, ms_42, ma_43, ms_43, if_true, if_false, Option.bind_some, cb_e, lt_e, nI_1, hs_nar2, nh4, upd_at, vau_at, ma_30_18, ms_30_18, ma_31_18, ms_31_18, ma_28_0, ms_28_0, ma_28_1, ms_28_1, ma_28_2, ms_28_2, ma_28_3, ms_28_3, ma_28_4, ms_28_4, ma_42_0, ms_42_0, ma_42_1, ms_42_1, ma_42_2, ms_42_2, ma_36_0, ms_36_0, z1', eadd]
    unfold fX12_cut_b124 fX12_cut_b135
    by_cases c8 : e - i ≤ 8
    · have htk : tokAt f i e = (wk (ltr f i (e - i)), 0, ltr f i (e - i)) := by unfold tokAt; rw [hl, if_pos rfl, if_pos c8]
      have hNam : Nam (ltr f i (e - i)) := ⟨by rw [ltr_len]; exact c8, ltr_let _ hlet⟩
      have m8 : min (e - i) 8 = e - i := by omega
      rw [if_pos (show nI (e - i) ≤ (8 : Int32) from nI_le (b := 8) c8 (by decide))]
      by_cases c7 : 7 < e - i
      · rw [if_pos (show (7 : Int32) < nI (e - i) from nI_lt (a := 7) c7 (by omega))]
        have w16 : wk (ltr f i (e - i)) = 16 := by
          rcases wk_cases (ltr f i (e - i)) with ⟨w, g1, g2, g3⟩ | ⟨g1, g2⟩
          · have := (wl_len w g1).1
            rw [g2, ltr_len] at this
            omega
          · exact g2
        exact b179 1 _ (by rw [w16]; rfl) (fun _ => rfl) (fun _ => by rw [m8]) htk
      · rw [if_neg (show ¬ (7 : Int32) < nI (e - i) from nI_nlt (a := 7) (by omega) (by decide))]
        have ky : ∀ k w fu, w + k = 16 → k < fu → fX12_cut_b146 (fX12_cut_b7 fuel) fu 0 (nI i) (nI (e - i)) (jN (cN 27 (ltr f i (min (e - i) 8)))) (nI (((fdn (fun k => decide (keysM k = jN (cN 27 (ltr f i (e - i))))) w).map (fun k => 20 + k)).getD 1)) (nI w) (mkM F A B) = fX12_cut_b179 (fX12_cut_b7 fuel) 0 (nI i) (nI (e - i)) (jN (cN 27 (ltr f i (min (e - i) 8)))) (nI (((fdn (fun k => decide (keysM k = jN (cN 27 (ltr f i (e - i))))) 16).map (fun k => 20 + k)).getD 1)) (mkM F A B) := by
          intro k
          induction k with
          | zero =>
            intro w fu q1 q2
            obtain ⟨fu, rfl⟩ : ∃ q, fu = q + 1 := ⟨fu - 1, by omega⟩
            have : w = 16 := by omega
            subst this
            rw [fX12_cut_b146, if_pos (by decide)]
          | succ k ih =>
            intro w fu q1 q2
            obtain ⟨fu, rfl⟩ : ∃ q, fu = q + 1 := ⟨fu - 1, by omega⟩
            have hw16 : w < 16 := by omega
            have hbw : B 7 w = keysM w := by rw [hW]
            have e2 := ih (w + 1) fu (by omega) (by omega)
            rw [fdn] at e2
            rw [fX12_cut_b146, if_neg (show ¬ (16 : Int32) ≤ nI w from nI_ge (b := 16) (by omega) (by decide))]
            unfold fX12_cut_b173
            simp -implicitDefEqProofs (disch := first | assumption | omega | decide | exact And.intro (by omega) (by omega)) only [mck, mg_0, mp_0, mr_1, mg_2, mp_2, mr_3, mg_4, mp_4, mr_5, mr_6, mr_7, mr_8, mr_9, mg_10, mp_10, mg_11, mp_11, mg_12, mp_12, mg_13, mp_13, mg_14, mp_14, mg_15, mp_15, mg_16, mp_16, mg_17, mp_17, mg_18, mp_18, mg_19, mp_19, mg_20, mp_20, mr_21, mr_22, mr_23, mr_24, mr_25, mr_26, mr_27, mr_28, mr_29, mr_30, mr_31, mr_32, mg_33, mp_33, mr_34, mr_35, mr_36, mr_37, mr_38, mg_39, mp_39, mr_40, mr_41, mr_42, mg_43, mp_43, mr_44, mr_45, mg_46, mp_46, mr_47, mr_48, mg_49, mp_49, mg_50, mp_50, mg_51, mp_51, mr_52, mr_53, mr_54, mg_55, mp_55, mr_56, mr_57, mg_58, mp_58, mg_59, mp_59, mg_60, mp_60, mr_61, mg_62, mp_62, mr_63, mr_64, mr_65, mr_66, mr_67, mr_68, ma_1, ms_1, ma_2, ms_2, ma_3, ms_3, ma_4, ms_4, ma_5, ms_5, ma_6, ms_6, ma_7, ms_7, ma_8, ms_8, ma_9, ms_9, ma_10, ms_10, ma_11, ms_11, ma_12, ms_12, ma_13, ms_13, ma_14, ms_14, ma_15, ms_15, ma_16, ms_16, ma_17, ms_17, ma_18, ms_18, ma_19, ms_19, ma_20, ms_20, ma_21, ms_21, ma_22, ms_22, ma_23, ms_23, ma_24, ms_24, ma_25, ms_25, ma_26, ms_26, ma_27, ms_27, ma_28, ms_28, ma_29, ms_29, ma_30, ms_30, ma_31, ms_31, ma_32, ms_32, ma_33, ms_33, ma_34, ms_34, ma_35, ms_35, ma_36, ms_36, ma_37, ms_37, ma_38, ms_38, ma_39, ms_39, ma_40, ms_40, ma_41, ms_41, ma_42, ms_42, ma_43, ms_43, if_true, if_false, Option.bind_some, cb_e, lt_e, nI_1, hs_nar2, nh4, upd_at, vau_at, ma_30_18, ms_30_18, ma_31_18, ms_31_18, ma_28_0, ms_28_0, ma_28_1, ms_28_1, ma_28_2, ms_28_2, ma_28_3, ms_28_3, ma_28_4, ms_28_4, ma_42_0, ms_42_0, ma_42_1, ms_42_1, ma_42_2, ms_42_2, ma_36_0, ms_36_0, hbw, lg_cmp_eq]
            have m8' : min (e - i) 8 = e - i := m8
            by_cases c : keysM w = jN (cN 27 (ltr f i (e - i)))
            · rw [if_pos (by rw [m8']; exact c)]
              rw [if_pos (by exact decide_eq_true c)] at e2
              have e20 : (20 : Int32) + nI w = nI (20 + w) := nI_add 20 w
              rw [e20]
              exact e2
            · rw [if_neg (by rw [m8']; exact c)]
              rw [if_neg (by simpa using c)] at e2
              exact e2
        have e2 := ky 16 0 FU (by omega) (by decide)
        have e2' : fX12_cut_b146 (fX12_cut_b7 fuel) FU 0 (nI i) (nI (e - i)) (jN (cN 27 (ltr f i (min (e - i) 8)))) 1 0 (mkM F A B) = _ := e2
        rw [e2', keys_fdn hNam]
        refine b179 _ _ ?_ (fun q => ?_) (fun _ => by rw [m8]) htk
        · by_cases cw : wk (ltr f i (e - i)) = 16
          · rw [if_pos cw]
            show 1 = mkk (wk (ltr f i (e - i)))
            rw [cw]; rfl
          · rw [if_neg cw]; rfl
        · rfl
    · have htk : tokAt f i e = (19, 0, []) := by unfold tokAt; rw [hl, if_pos rfl, if_neg c8]
      rw [if_neg (show ¬ nI (e - i) ≤ (8 : Int32) from nI_ge (a := 8) (by omega) (by omega)), if_pos (show (7 : Int32) < nI (e - i) from nI_lt (a := 7) (by omega) (by omega))]
      exact b179 3 _ rfl (fun q => (by cases q)) (fun q => (by cases q)) htk
  | false =>
    rw [if_pos b2f]
    simp -implicitDefEqProofs (disch := first | assumption | omega | decide | exact And.intro (by omega) (by omega)) only [mck, mg_0, mp_0, mr_1, mg_2, mp_2, mr_3, mg_4, mp_4, mr_5, mr_6, mr_7, mr_8, mr_9, mg_10, mp_10, mg_11, mp_11, mg_12, mp_12, mg_13, mp_13, mg_14, mp_14, mg_15, mp_15, mg_16, mp_16, mg_17, mp_17, mg_18, mp_18, mg_19, mp_19, mg_20, mp_20, mr_21, mr_22, mr_23, mr_24, mr_25, mr_26, mr_27, mr_28, mr_29, mr_30, mr_31, mr_32, mg_33, mp_33, mr_34, mr_35, mr_36, mr_37, mr_38, mg_39, mp_39, mr_40, mr_41, mr_42, mg_43, mp_43, mr_44, mr_45, mg_46, mp_46, mr_47, mr_48, mg_49, mp_49, mg_50, mp_50, mg_51, mp_51, mr_52, mr_53, mr_54, mg_55, mp_55, mr_56, mr_57, mg_58, mp_58, mg_59, mp_59, mg_60, mp_60, mr_61, mg_62, mp_62, mr_63, mr_64, mr_65, mr_66, mr_67, mr_68, ma_1, ms_1, ma_2, ms_2, ma_3, ms_3, ma_4, ms_4, ma_5, ms_5, ma_6, ms_6, ma_7, ms_7, ma_8, ms_8, ma_9, ms_9, ma_10, ms_10, ma_11, ms_11, ma_12, ms_12, ma_13, ms_13, ma_14, ms_14, ma_15, ms_15, ma_16, ms_16, ma_17, ms_17, ma_18, ms_18, ma_19, ms_19, ma_20, ms_20, ma_21, ms_21, ma_22, ms_22, ma_23, ms_23, ma_24, ms_24, ma_25, ms_25, ma_26, ms_26, ma_27, ms_27, ma_28, ms_28, ma_29, ms_29, ma_30, ms_30, ma_31, ms_31, ma_32, ms_32, ma_33, ms_33, ma_34, ms_34, ma_35, ms_35, ma_36, ms_36, ma_37, ms_37, ma_38, ms_38, ma_39, ms_39, ma_40, ms_40, ma_41, ms_41, ma_42, ms_42, ma_43, ms_43, if_true, if_false, Option.bind_some, cb_e, lt_e, nI_1, hs_nar2, nh4, upd_at, vau_at, ma_30_18, ms_30_18, ma_31_18, ms_31_18, ma_28_0, ms_28_0, ma_28_1, ms_28_1, ma_28_2, ms_28_2, ma_28_3, ms_28_3, ma_28_4, ms_28_4, ma_42_0, ms_42_0, ma_42_1, ms_42_1, ma_42_2, ms_42_2, ma_36_0, ms_36_0, d1]
    cases hd : isD (f i) with
    | true =>
      rw [if_neg b2t]
      have hdig := h.dig hl hd
      have lp : ∀ k j fu, j + k = e - i → k < fu → fX12_cut_b208 (fX12_cut_b7 fuel) fu 0 (nI i) (nI j) (nI (dgv f i (min j 4))) (mkM F A B) = fX12_cut_b250 (fX12_cut_b7 fuel) 0 (nI i) (nI (e - i)) (nI (dgv f i (min (e - i) 4))) (mkM F A B) := by
        intro k
        induction k with
        | zero =>
          intro j fu q1 q2
          obtain ⟨fu, rfl⟩ : ∃ q, fu = q + 1 := ⟨fu - 1, by omega⟩
          have : j = e - i := by omega
          subst this
          have bb := m_byteAt (F := F) (A := A) (B := B) hL h4 hA (i := e) (by omega)
          have hle : isD (if e < L then f e else 0) = false := by
            by_cases c : e < L
            · rw [if_pos c]
              have := h.2.2.2 c
              unfold pr at this
              rw [if_neg (by rw [hl]; decide), if_pos hd] at this
              exact this
            · rw [if_neg c]; rfl
          have l2 := (x_isD (c := if e < L then f e else 0) (by split; exact hf e; decide) (mkM F A B)).2
          rw [hle] at l2
          rw [fX12_cut_b208]
          simp -implicitDefEqProofs (disch := first | assumption | omega | decide | exact And.intro (by omega) (by omega)) only [mck, mg_0, mp_0, mr_1, mg_2, mp_2, mr_3, mg_4, mp_4, mr_5, mr_6, mr_7, mr_8, mr_9, mg_10, mp_10, mg_11, mp_11, mg_12, mp_12, mg_13, mp_13, mg_14, mp_14, mg_15, mp_15, mg_16, mp_16, mg_17, mp_17, mg_18, mp_18, mg_19, mp_19, mg_20, mp_20, mr_21, mr_22, mr_23, mr_24, mr_25, mr_26, mr_27, mr_28, mr_29, mr_30, mr_31, mr_32, mg_33, mp_33, mr_34, mr_35, mr_36, mr_37, mr_38, mg_39, mp_39, mr_40, mr_41, mr_42, mg_43, mp_43, mr_44, mr_45, mg_46, mp_46, mr_47, mr_48, mg_49, mp_49, mg_50, mp_50, mg_51, mp_51, mr_52, mr_53, mr_54, mg_55, mp_55, mr_56, mr_57, mg_58, mp_58, mg_59, mp_59, mg_60, mp_60, mr_61, mg_62, mp_62, mr_63, mr_64, mr_65, mr_66, mr_67, mr_68, ma_1, ms_1, ma_2, ms_2, ma_3, ms_3, ma_4, ms_4, ma_5, ms_5, ma_6, ms_6, ma_7, ms_7, ma_8, ms_8, ma_9, ms_9, ma_10, ms_10, ma_11, ms_11, ma_12, ms_12, ma_13, ms_13, ma_14, ms_14, ma_15, ms_15, ma_16, ms_16, ma_17, ms_17, ma_18, ms_18, ma_19, ms_19, ma_20, ms_20, ma_21, ms_21, ma_22, ms_22, ma_23, ms_23, ma_24, ms_24, ma_25, ms_25, ma_26, ms_26, ma_27, ms_27, ma_28, ms_28, ma_29, ms_29, ma_30, ms_30, ma_31, ms_31, ma_32, ms_32, ma_33, ms_33, ma_34, ms_34, ma_35, ms_35, ma_36, ms_36, ma_37, ms_37, ma_38, ms_38, ma_39, ms_39, ma_40, ms_40, ma_41, ms_41, ma_42, ms_42, ma_43, ms_43, if_true, if_false, Option.bind_some, cb_e, lt_e, nI_1, hs_nar2, nh4, upd_at, vau_at, ma_30_18, ms_30_18, ma_31_18, ms_31_18, ma_28_0, ms_28_0, ma_28_1, ms_28_1, ma_28_2, ms_28_2, ma_28_3, ms_28_3, ma_28_4, ms_28_4, ma_42_0, ms_42_0, ma_42_1, ms_42_1, ma_42_2, ms_42_2, ma_36_0, ms_36_0, eadd, bb, l2, if_pos b2f]
        | succ k ih =>
          intro j fu q1 q2
          obtain ⟨fu, rfl⟩ : ∃ q, fu = q + 1 := ⟨fu - 1, by omega⟩
          have hj := hdig j (by omega)
          have hj2 := of_decide_eq_true hj
          have bb := m_byteAt (F := F) (A := A) (B := B) hL h4 hA (i := i + j) (by omega)
          rw [if_pos (by omega)] at bb
          have l2 := (x_isD (hf (i + j)) (mkM F A B)).2
          rw [hj] at l2
          have e2 := ih (j + 1) fu (by omega) (by omega)
          rw [fX12_cut_b208]
          simp -implicitDefEqProofs (disch := first | assumption | omega | decide | exact And.intro (by omega) (by omega)) only [mck, mg_0, mp_0, mr_1, mg_2, mp_2, mr_3, mg_4, mp_4, mr_5, mr_6, mr_7, mr_8, mr_9, mg_10, mp_10, mg_11, mp_11, mg_12, mp_12, mg_13, mp_13, mg_14, mp_14, mg_15, mp_15, mg_16, mp_16, mg_17, mp_17, mg_18, mp_18, mg_19, mp_19, mg_20, mp_20, mr_21, mr_22, mr_23, mr_24, mr_25, mr_26, mr_27, mr_28, mr_29, mr_30, mr_31, mr_32, mg_33, mp_33, mr_34, mr_35, mr_36, mr_37, mr_38, mg_39, mp_39, mr_40, mr_41, mr_42, mg_43, mp_43, mr_44, mr_45, mg_46, mp_46, mr_47, mr_48, mg_49, mp_49, mg_50, mp_50, mg_51, mp_51, mr_52, mr_53, mr_54, mg_55, mp_55, mr_56, mr_57, mg_58, mp_58, mg_59, mp_59, mg_60, mp_60, mr_61, mg_62, mp_62, mr_63, mr_64, mr_65, mr_66, mr_67, mr_68, ma_1, ms_1, ma_2, ms_2, ma_3, ms_3, ma_4, ms_4, ma_5, ms_5, ma_6, ms_6, ma_7, ms_7, ma_8, ms_8, ma_9, ms_9, ma_10, ms_10, ma_11, ms_11, ma_12, ms_12, ma_13, ms_13, ma_14, ms_14, ma_15, ms_15, ma_16, ms_16, ma_17, ms_17, ma_18, ms_18, ma_19, ms_19, ma_20, ms_20, ma_21, ms_21, ma_22, ms_22, ma_23, ms_23, ma_24, ms_24, ma_25, ms_25, ma_26, ms_26, ma_27, ms_27, ma_28, ms_28, ma_29, ms_29, ma_30, ms_30, ma_31, ms_31, ma_32, ms_32, ma_33, ms_33, ma_34, ms_34, ma_35, ms_35, ma_36, ms_36, ma_37, ms_37, ma_38, ms_38, ma_39, ms_39, ma_40, ms_40, ma_41, ms_41, ma_42, ms_42, ma_43, ms_43, if_true, if_false, Option.bind_some, cb_e, lt_e, nI_1, hs_nar2, nh4, upd_at, vau_at, ma_30_18, ms_30_18, ma_31_18, ms_31_18, ma_28_0, ms_28_0, ma_28_1, ms_28_1, ma_28_2, ms_28_2, ma_28_3, ms_28_3, ma_28_4, ms_28_4, ma_42_0, ms_42_0, ma_42_1, ms_42_1, ma_42_2, ms_42_2, ma_36_0, ms_36_0, nI_add, bb, l2, if_neg b2t]
          unfold fX12_cut_b244
          by_cases c8 : 4 ≤ j
          · rw [if_pos (show (4 : Int32) ≤ nI j from nI_le (a := 4) c8 (by omega)), nI_1]
            rw [show min (j + 1) 4 = min j 4 by omega] at e2
            exact e2
          · have ev : (10 : Int32) * nI (dgv f i j) + nI (f (i + j)) - 48 = nI (dgv f i (j + 1)) := by
              have q3 : (10 : Int32) * nI (dgv f i j) = nI (10 * dgv f i j) := pk_mul 10 _
              have q4 : nI (10 * dgv f i j + f (i + j)) - nI 48 = nI (10 * dgv f i j + f (i + j) - 48) := pk_sub (by omega)
              rw [q3, nI_add, show (48 : Int32) = nI 48 from rfl, q4, dgv]
              congr 1
              omega
            rw [if_neg (show ¬ (4 : Int32) ≤ nI j from nI_ge (b := 4) (by omega) (by decide))]
            rw [show min j 4 = j by omega]
            simp -implicitDefEqProofs (disch := first | assumption | omega | decide | exact And.intro (by omega) (by omega)) only [mck, mg_0, mp_0, mr_1, mg_2, mp_2, mr_3, mg_4, mp_4, mr_5, mr_6, mr_7, mr_8, mr_9, mg_10, mp_10, mg_11, mp_11, mg_12, mp_12, mg_13, mp_13, mg_14, mp_14, mg_15, mp_15, mg_16, mp_16, mg_17, mp_17, mg_18, mp_18, mg_19, mp_19, mg_20, mp_20, mr_21, mr_22, mr_23, mr_24, mr_25, mr_26, mr_27, mr_28, mr_29, mr_30, mr_31, mr_32, mg_33, mp_33, mr_34, mr_35, mr_36, mr_37, mr_38, mg_39, mp_39, mr_40, mr_41, mr_42, mg_43, mp_43, mr_44, mr_45, mg_46, mp_46, mr_47, mr_48, mg_49, mp_49, mg_50, mp_50, mg_51, mp_51, mr_52, mr_53, mr_54, mg_55, mp_55, mr_56, mr_57, mg_58, mp_58, mg_59, mp_59, mg_60, mp_60, mr_61, mg_62, mp_62, mr_63, mr_64, mr_65, mr_66, mr_67, mr_68, ma_1, ms_1, ma_2, ms_2, ma_3, ms_3, ma_4, ms_4, ma_5, ms_5, ma_6, ms_6, ma_7, ms_7, ma_8, ms_8, ma_9, ms_9, ma_10, ms_10, ma_11, ms_11, ma_12, ms_12, ma_13, ms_13, ma_14, ms_14, ma_15, ms_15, ma_16, ms_16, ma_17, ms_17, ma_18, ms_18, ma_19, ms_19, ma_20, ms_20, ma_21, ms_21, ma_22, ms_22, ma_23, ms_23, ma_24, ms_24, ma_25, ms_25, ma_26, ms_26, ma_27, ms_27, ma_28, ms_28, ma_29, ms_29, ma_30, ms_30, ma_31, ms_31, ma_32, ms_32, ma_33, ms_33, ma_34, ms_34, ma_35, ms_35, ma_36, ms_36, ma_37, ms_37, ma_38, ms_38, ma_39, ms_39, ma_40, ms_40, ma_41, ms_41, ma_42, ms_42, ma_43, ms_43, if_true, if_false, Option.bind_some, cb_e, lt_e, nI_1, hs_nar2, nh4, upd_at, vau_at, ma_30_18, ms_30_18, ma_31_18, ms_31_18, ma_28_0, ms_28_0, ma_28_1, ms_28_1, ma_28_2, ms_28_2, ma_28_3, ms_28_3, ma_28_4, ms_28_4, ma_42_0, ms_42_0, ma_42_1, ms_42_1, ma_42_2, ms_42_2, ma_36_0, ms_36_0, bb, ev]
            rw [show min (j + 1) 4 = j + 1 by omega] at e2
            exact e2
      have e1 := lp (e - i) 0 FU (by omega) (by unfold FU; omega)
      have e1' : fX12_cut_b208 (fX12_cut_b7 fuel) FU 0 (nI i) 0 0 (mkM F A B) = _ := e1
      rw [e1']
      have b261 : ∀ kd tk, kd = mkk tk.1 → (tk.1 = 17 → dgv f i (min (e - i) 4) = tk.2.1) → (tk.1 = 16 → (0 : Int64) = jN (cN 27 tk.2.2)) → tokAt f i e = tk → ∃ A' B', fX12_cut_b261 (fX12_cut_b7 fuel) 0 (nI i) (nI (e - i)) (nI (dgv f i (min (e - i) 4))) 0 (nI kd) (mkM F A B) = fX12_cut_b7 fuel 0 (nI e) (mkM (upd F 10 (nI (n + 1))) A' B') ∧ tkM A' B' n i (tokAt f i e) ∧ OnT n A A' B B' := by
        intro kd tk q1 q2 q3 q4
        obtain ⟨A', B', z1, z2, z3⟩ := m_token (F := F) (A := A) (B := B) (n := n) (by omega) h10 kd i (dgv f i (min (e - i) 4)) 0 tk q1 q2 q3
        refine ⟨A', B', ?_, by rw [q4]; exact z2, z3⟩
        unfold fX12_cut_b261 fX12_cut_b291
        simp -implicitDefEqProofs (disch := first | assumption | omega | decide | exact And.intro (by omega) (by omega)) only [mck, mg_0, mp_0, mr_1, mg_2, mp_2, mr_3, mg_4, mp_4, mr_5, mr_6, mr_7, mr_8, mr_9, mg_10, mp_10, mg_11, mp_11, mg_12, mp_12, mg_13, mp_13, mg_14, mp_14, mg_15, mp_15, mg_16, mp_16, mg_17, mp_17, mg_18, mp_18, mg_19, mp_19, mg_20, mp_20, mr_21, mr_22, mr_23, mr_24, mr_25, mr_26, mr_27, mr_28, mr_29, mr_30, mr_31, mr_32, mg_33, mp_33, mr_34, mr_35, mr_36, mr_37, mr_38, mg_39, mp_39, mr_40, mr_41, mr_42, mg_43, mp_43, mr_44, mr_45, mg_46, mp_46, mr_47, mr_48, mg_49, mp_49, mg_50, mp_50, mg_51, mp_51, mr_52, mr_53, mr_54, mg_55, mp_55, mr_56, mr_57, mg_58, mp_58, mg_59, mp_59, mg_60, mp_60, mr_61, mg_62, mp_62, mr_63, mr_64, mr_65, mr_66, mr_67, mr_68, ma_1, ms_1, ma_2, ms_2, ma_3, ms_3, ma_4, ms_4, ma_5, ms_5, ma_6, ms_6, ma_7, ms_7, ma_8, ms_8, ma_9, ms_9, ma_10, ms_10, ma_11, ms_11, ma_12, ms_12, ma_13, ms_13, ma_14, ms_14, ma_15, ms_15, ma_16, ms_16, ma_17, ms_17, ma_18, ms_18, ma_19, ms_19, ma_20, ms_20, ma_21, ms_21, ma_22, ms_22, ma_23, ms_23, ma_24, ms_24, ma_25, ms_25, ma_26, ms_26, ma_27, ms_27, ma_28, ms_28, ma_29, ms_29, ma_30, ms_30, ma_31, ms_31, ma_32, ms_32, ma_33, ms_33, ma_34, ms_34, ma_35, ms_35, ma_36, ms_36, ma_37, ms_37, ma_38, ms_38, ma_39, ms_39, ma_40, ms_40, ma_41, ms_41, ma_42, ms_42, ma_43, ms_43, if_true, if_false, Option.bind_some, cb_e, lt_e, nI_1, hs_nar2, nh4, upd_at, vau_at, ma_30_18, ms_30_18, ma_31_18, ms_31_18, ma_28_0, ms_28_0, ma_28_1, ms_28_1, ma_28_2, ms_28_2, ma_28_3, ms_28_3, ma_28_4, ms_28_4, ma_42_0, ms_42_0, ma_42_1, ms_42_1, ma_42_2, ms_42_2, ma_36_0, ms_36_0, z1, eadd]
      unfold fX12_cut_b250
      by_cases c4 : e - i ≤ 4
      · have htk : tokAt f i e = (17, dgv f i (e - i), []) := by unfold tokAt; rw [hl, if_neg (by decide), hd, if_pos rfl, if_pos c4]
        rw [if_pos (show nI (e - i) ≤ (4 : Int32) from nI_le (b := 4) c4 (by decide))]
        exact b261 2 _ rfl (fun _ => by rw [show min (e - i) 4 = e - i by omega]) (fun q => (by cases q)) htk
      · have htk : tokAt f i e = (19, 0, []) := by unfold tokAt; rw [hl, if_neg (by decide), hd, if_pos rfl, if_neg c4]
        rw [if_neg (show ¬ nI (e - i) ≤ (4 : Int32) from nI_ge (a := 4) (by omega) (by omega))]
        exact b261 3 _ rfl (fun q => (by cases q)) (fun q => (by cases q)) htk
    | false =>
      rw [if_pos b2f]
      have he := h.one hl hd
      have htk : tokAt f i e = (sgk (f i), 0, []) := by unfold tokAt; rw [hl, if_neg (by decide), hd, if_neg (by decide)]
      have hs : ∀ c, c < 256 → ¬ sgk c = 17 ∧ ¬ sgk c = 16 := by decide +kernel
      have bb := m_byteAt (F := F) (A := A) (B := B) hL h4 hA (i := i + 1) (by omega)
      obtain ⟨A', B', z1, z2, z3⟩ := m_token (F := F) (A := A) (B := B) (n := n) (by omega) h10 (mkk (sgk (f i))) i 0 0 (sgk (f i), 0, []) rfl (fun _ => rfl) (fun q => absurd q (hs _ (hf i)).2)
      have z1' : fX12_token 0 (nI (mkk (sgk (f i)))) (nI i) 0 0 (mkM F A B) = some ((), mkM (upd F 10 (nI (n + 1))) A' B') := z1
      refine ⟨A', B', ?_, by rw [htk]; exact z2, z3⟩
      simp -implicitDefEqProofs (disch := first | assumption | omega | decide | exact And.intro (by omega) (by omega)) only [mck, mg_0, mp_0, mr_1, mg_2, mp_2, mr_3, mg_4, mp_4, mr_5, mr_6, mr_7, mr_8, mr_9, mg_10, mp_10, mg_11, mp_11, mg_12, mp_12, mg_13, mp_13, mg_14, mp_14, mg_15, mp_15, mg_16, mp_16, mg_17, mp_17, mg_18, mp_18, mg_19, mp_19, mg_20, mp_20, mr_21, mr_22, mr_23, mr_24, mr_25, mr_26, mr_27, mr_28, mr_29, mr_30, mr_31, mr_32, mg_33, mp_33, mr_34, mr_35, mr_36, mr_37, mr_38, mg_39, mp_39, mr_40, mr_41, mr_42, mg_43, mp_43, mr_44, mr_45, mg_46, mp_46, mr_47, mr_48, mg_49, mp_49, mg_50, mp_50, mg_51, mp_51, mr_52, mr_53, mr_54, mg_55, mp_55, mr_56, mr_57, mg_58, mp_58, mg_59, mp_59, mg_60, mp_60, mr_61, mg_62, mp_62, mr_63, mr_64, mr_65, mr_66, mr_67, mr_68, ma_1, ms_1, ma_2, ms_2, ma_3, ms_3, ma_4, ms_4, ma_5, ms_5, ma_6, ms_6, ma_7, ms_7, ma_8, ms_8, ma_9, ms_9, ma_10, ms_10, ma_11, ms_11, ma_12, ms_12, ma_13, ms_13, ma_14, ms_14, ma_15, ms_15, ma_16, ms_16, ma_17, ms_17, ma_18, ms_18, ma_19, ms_19, ma_20, ms_20, ma_21, ms_21, ma_22, ms_22, ma_23, ms_23, ma_24, ms_24, ma_25, ms_25, ma_26, ms_26, ma_27, ms_27, ma_28, ms_28, ma_29, ms_29, ma_30, ms_30, ma_31, ms_31, ma_32, ms_32, ma_33, ms_33, ma_34, ms_34, ma_35, ms_35, ma_36, ms_36, ma_37, ms_37, ma_38, ms_38, ma_39, ms_39, ma_40, ms_40, ma_41, ms_41, ma_42, ms_42, ma_43, ms_43, if_true, if_false, Option.bind_some, cb_e, lt_e, nI_1, hs_nar2, nh4, upd_at, vau_at, ma_30_18, ms_30_18, ma_31_18, ms_31_18, ma_28_0, ms_28_0, ma_28_1, ms_28_1, ma_28_2, ms_28_2, ma_28_3, ms_28_3, ma_28_4, ms_28_4, ma_42_0, ms_42_0, ma_42_1, ms_42_1, ma_42_2, ms_42_2, ma_36_0, ms_36_0, bb, m_sign (hf i)]
      unfold fX12_sign_b95 fX12_cut_b291
      simp -implicitDefEqProofs (disch := first | assumption | omega | decide | exact And.intro (by omega) (by omega)) only [mck, mg_0, mp_0, mr_1, mg_2, mp_2, mr_3, mg_4, mp_4, mr_5, mr_6, mr_7, mr_8, mr_9, mg_10, mp_10, mg_11, mp_11, mg_12, mp_12, mg_13, mp_13, mg_14, mp_14, mg_15, mp_15, mg_16, mp_16, mg_17, mp_17, mg_18, mp_18, mg_19, mp_19, mg_20, mp_20, mr_21, mr_22, mr_23, mr_24, mr_25, mr_26, mr_27, mr_28, mr_29, mr_30, mr_31, mr_32, mg_33, mp_33, mr_34, mr_35, mr_36, mr_37, mr_38, mg_39, mp_39, mr_40, mr_41, mr_42, mg_43, mp_43, mr_44, mr_45, mg_46, mp_46, mr_47, mr_48, mg_49, mp_49, mg_50, mp_50, mg_51, mp_51, mr_52, mr_53, mr_54, mg_55, mp_55, mr_56, mr_57, mg_58, mp_58, mg_59, mp_59, mg_60, mp_60, mr_61, mg_62, mp_62, mr_63, mr_64, mr_65, mr_66, mr_67, mr_68, ma_1, ms_1, ma_2, ms_2, ma_3, ms_3, ma_4, ms_4, ma_5, ms_5, ma_6, ms_6, ma_7, ms_7, ma_8, ms_8, ma_9, ms_9, ma_10, ms_10, ma_11, ms_11, ma_12, ms_12, ma_13, ms_13, ma_14, ms_14, ma_15, ms_15, ma_16, ms_16, ma_17, ms_17, ma_18, ms_18, ma_19, ms_19, ma_20, ms_20, ma_21, ms_21, ma_22, ms_22, ma_23, ms_23, ma_24, ms_24, ma_25, ms_25, ma_26, ms_26, ma_27, ms_27, ma_28, ms_28, ma_29, ms_29, ma_30, ms_30, ma_31, ms_31, ma_32, ms_32, ma_33, ms_33, ma_34, ms_34, ma_35, ms_35, ma_36, ms_36, ma_37, ms_37, ma_38, ms_38, ma_39, ms_39, ma_40, ms_40, ma_41, ms_41, ma_42, ms_42, ma_43, ms_43, if_true, if_false, Option.bind_some, cb_e, lt_e, nI_1, hs_nar2, nh4, upd_at, vau_at, ma_30_18, ms_30_18, ma_31_18, ms_31_18, ma_28_0, ms_28_0, ma_28_1, ms_28_1, ma_28_2, ms_28_2, ma_28_3, ms_28_3, ma_28_4, ms_28_4, ma_42_0, ms_42_0, ma_42_1, ms_42_1, ma_42_2, ms_42_2, ma_36_0, ms_36_0, z1']
      rw [he]
end CU
