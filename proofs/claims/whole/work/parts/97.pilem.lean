/-! ===== a book of a pile is told: the model ===== -/
theorem bit_sj : ∀ s, s < 64 → ∀ i, i < 6 → ¬ s / 2 ^ i % 2 = 1 → ∀ j, j < 6 → ((s + 2 ^ i) / 2 ^ j % 2 = 1 ↔ (j = i ∨ s / 2 ^ j % 2 = 1)) := by decide +kernel
theorem twe_nI {a b : Nat} : (20 : Int32) * nI a + nI b = nI (20 * a + b) := by
  have e : (20 : Int32) * nI a = nI (20 * a) := (Int32.ofNat_mul 20 a).symm
  rw [e, nI_add]
theorem twe6_nI {a b : Nat} : (20 : Int32) * nI a + 6 + nI b = nI (20 * a + 6 + b) := by
  have e : (20 : Int32) * nI a + 6 = nI (20 * a + 6) := twe_nI (b := 6)
  rw [e, nI_add]
theorem twe12_nI {a b : Nat} : (20 : Int32) * nI a + 12 + nI b = nI (20 * a + 12 + b) := by
  have e : (20 : Int32) * nI a + 12 = nI (20 * a + 12) := twe_nI (b := 12)
  rw [e, nI_add]
theorem twe18_nI {a : Nat} : (20 : Int32) * nI a + 18 = nI (20 * a + 18) := twe_nI (b := 18)
section P97
variable {sd M : Nat} {K V : Nat → Nat} {NM : Nat → List Nat} {PL : Nat → Nat} {K4 : Nat → Int32 → Int32 → Sto → Option (Unit × Sto)}
theorem m_opt {F : Nat → Int32} {A : Nat → Nat → Int32} {B : Nat → Nat → Int64} (hK : TkK M K V) {k : Nat} {s : Nat × Nat} (hs : s.2 ≤ M) (h : MPo F PL s.1 s.2) (hk : MTk A M K V PL) (hv : vk k = true) (hk18 : ¬ k = 18) : ∃ F', MPo F' PL (opt K k s).1 (opt K k s).2 ∧ (∀ k, ¬ k = 11 → ¬ k = 13 → ¬ k = 14 → F' k = F k) ∧ (s.1 = 0 → fX12_is 0 (nI (mkk k)) (mkM F A B) = some (b2 (decide (K s.2 = k)), mkM F A B)) ∧ (s.1 = 0 → K s.2 = k → fX12_goesOn 0 (mkM F A B) = some ((), mkM F' A B)) ∧ (¬ (s.1 = 0 ∧ K s.2 = k) → F' = F) := by
  by_cases c : s.1 = 0
  · have h' := h
    rw [c] at h'
    by_cases e : K s.2 = k
    · obtain ⟨F', z1, z2, z3⟩ := m_go (B := B) hK hs h' hk e hk18
      have es : opt K k s = stp K k (0, s.2) := by
        unfold opt
        rw [if_pos ⟨c, e⟩]
        exact congrArg (stp K k) (Prod.ext c rfl)
      rw [es]
      exact ⟨F', z2, z3, fun _ => m_is hK hs h' hk hv, fun _ _ => z1, fun q => absurd ⟨c, e⟩ q⟩
    · have es : opt K k s = s := by
        unfold opt
        rw [if_neg (fun q => e q.2)]
      rw [es]
      exact ⟨F, h, fun _ _ _ _ => rfl, fun _ => m_is hK hs h' hk hv, fun _ q => absurd q e, fun _ => rfl⟩
  · rw [opt_F c]
    exact ⟨F, h, fun _ _ _ _ => rfl, fun q => absurd q c, fun q => absurd q c, fun _ => rfl⟩
theorem m_pile63 {F : Nat → Int32} {A : Nat → Nat → Int32} {B : Nat → Nat → Int64} {s : Nat × Nat} {x1 x2 x4 : Int32} (hK : TkK M K V) (hs : s.2 ≤ M) (hs2 : s.1 ≤ 2) (h : MPo F PL s.1 s.2) (hk : MTk A M K V PL) : ∃ F' be, fX12_tellPile_b63 K4 0 x1 x2 x4 (mkM F A B) = fX12_tellPile_b101 K4 0 x1 x2 x4 be (mkM F' A B) ∧ MPo F' PL (opt K 45 (stp K 5 s)).1 (opt K 45 (stp K 5 s)).2 ∧ (∀ k, ¬ k = 11 → ¬ k = 13 → ¬ k = 14 → F' k = F k) ∧ ((stp K 5 s).1 = 0 → be = if K (stp K 5 s).2 = 45 then 1 else 0) := by
  obtain ⟨⟨l1, l2, l3⟩, l4⟩ := stp_ok hK (k := 5) (s := s) (by decide) hs hs2
  obtain ⟨F1, a1, a2, a3⟩ := m_stp (B := B) hK (k := 5) hs h hk rfl (by decide)
  obtain ⟨F2, b1, b3, b4, b5, b6⟩ := m_opt (B := B) hK (k := 45) l2 a2 hk rfl (by decide)
  have a1' : fX12_must 0 24 (mkM F A B) = some ((), mkM F1 A B) := a1
  have f13 := a2.1
  by_cases c : (stp K 5 s).1 = 0
  · have f13' : F1 13 = 0 := by rw [f13, c]; rfl
    have i9 : fX12_is 0 9 (mkM F1 A B) = some (b2 (decide (K (stp K 5 s).2 = 45)), mkM F1 A B) := b4 c
    by_cases e : K (stp K 5 s).2 = 45
    · have g1 := b5 c e
      rw [decide_eq_true e] at i9
      have n0 : ¬ (1 : Int32) = 0 := by decide
      refine ⟨F2, 1, ?_, b1, fun k q1 q2 q3 => by rw [b3 k q1 q2 q3, a3 k q1 q2 q3], fun _ => by rw [if_pos e]⟩
      unfold fX12_tellPile_b63 fX12_tellPile_b90
      simp -implicitDefEqProofs (disch := first | assumption | omega | decide | exact And.intro (by omega) (by omega)) only [mck, mg_0, mp_0, mr_1, mg_2, mp_2, mr_3, mg_4, mp_4, mr_5, mr_6, mr_7, mr_8, mr_9, mg_10, mp_10, mg_11, mp_11, mg_12, mp_12, mg_13, mp_13, mg_14, mp_14, mg_15, mp_15, mg_16, mp_16, mg_17, mp_17, mg_18, mp_18, mg_19, mp_19, mg_20, mp_20, mr_21, mr_22, mr_23, mr_24, mr_25, mr_26, mr_27, mr_28, mr_29, mr_30, mr_31, mr_32, mg_33, mp_33, mr_34, mr_35, mr_36, mr_37, mr_38, mg_39, mp_39, mr_40, mr_41, mr_42, mg_43, mp_43, mr_44, mr_45, mg_46, mp_46, mr_47, mr_48, mg_49, mp_49, mg_50, mp_50, mg_51, mp_51, mr_52, mr_53, mr_54, mg_55, mp_55, mr_56, mr_57, mg_58, mp_58, mg_59, mp_59, mg_60, mp_60, mr_61, mg_62, mp_62, mr_63, mr_64, mr_65, mr_66, mr_67, mr_68, ma_1, ms_1, ma_2, ms_2, ma_3, ms_3, ma_4, ms_4, ma_5, ms_5, ma_6, ms_6, ma_7, ms_7, ma_8, ms_8, ma_9, ms_9, ma_10, ms_10, ma_11, ms_11, ma_12, ms_12, ma_13, ms_13, ma_14, ms_14, ma_15, ms_15, ma_16, ms_16, ma_17, ms_17, ma_18, ms_18, ma_19, ms_19, ma_20, ms_20, ma_21, ms_21, ma_22, ms_22, ma_23, ms_23, ma_24, ms_24, ma_25, ms_25, ma_26, ms_26, ma_27, ms_27, ma_28, ms_28, ma_29, ms_29, ma_30, ms_30, ma_31, ms_31, ma_32, ms_32, ma_33, ms_33, ma_34, ms_34, ma_35, ms_35, ma_36, ms_36, ma_37, ms_37, ma_38, ms_38, ma_39, ms_39, ma_40, ms_40, ma_41, ms_41, ma_42, ms_42, ma_43, ms_43, if_true, if_false, Option.bind_some, cb_e, lt_e, nI_1, hs_nar2, nh4, upd_at, vau_at, ma_30_18, ms_30_18, ma_31_18, ms_31_18, ma_28_0, ms_28_0, ma_28_1, ms_28_1, ma_28_2, ms_28_2, ma_28_3, ms_28_3, ma_28_4, ms_28_4, ma_42_0, ms_42_0, ma_42_1, ms_42_1, ma_42_2, ms_42_2, ma_36_0, ms_36_0, a1', f13', i9, if_neg b2t, if_neg n0, g1]
    · have eF := b6 (fun q => e q.2)
      rw [decide_eq_false e] at i9
      refine ⟨F2, 0, ?_, b1, fun k q1 q2 q3 => by rw [b3 k q1 q2 q3, a3 k q1 q2 q3], fun _ => by rw [if_neg e]⟩
      rw [eF]
      unfold fX12_tellPile_b63 fX12_tellPile_b89 fX12_tellPile_b90
      simp -implicitDefEqProofs (disch := first | assumption | omega | decide | exact And.intro (by omega) (by omega)) only [mck, mg_0, mp_0, mr_1, mg_2, mp_2, mr_3, mg_4, mp_4, mr_5, mr_6, mr_7, mr_8, mr_9, mg_10, mp_10, mg_11, mp_11, mg_12, mp_12, mg_13, mp_13, mg_14, mp_14, mg_15, mp_15, mg_16, mp_16, mg_17, mp_17, mg_18, mp_18, mg_19, mp_19, mg_20, mp_20, mr_21, mr_22, mr_23, mr_24, mr_25, mr_26, mr_27, mr_28, mr_29, mr_30, mr_31, mr_32, mg_33, mp_33, mr_34, mr_35, mr_36, mr_37, mr_38, mg_39, mp_39, mr_40, mr_41, mr_42, mg_43, mp_43, mr_44, mr_45, mg_46, mp_46, mr_47, mr_48, mg_49, mp_49, mg_50, mp_50, mg_51, mp_51, mr_52, mr_53, mr_54, mg_55, mp_55, mr_56, mr_57, mg_58, mp_58, mg_59, mp_59, mg_60, mp_60, mr_61, mg_62, mp_62, mr_63, mr_64, mr_65, mr_66, mr_67, mr_68, ma_1, ms_1, ma_2, ms_2, ma_3, ms_3, ma_4, ms_4, ma_5, ms_5, ma_6, ms_6, ma_7, ms_7, ma_8, ms_8, ma_9, ms_9, ma_10, ms_10, ma_11, ms_11, ma_12, ms_12, ma_13, ms_13, ma_14, ms_14, ma_15, ms_15, ma_16, ms_16, ma_17, ms_17, ma_18, ms_18, ma_19, ms_19, ma_20, ms_20, ma_21, ms_21, ma_22, ms_22, ma_23, ms_23, ma_24, ms_24, ma_25, ms_25, ma_26, ms_26, ma_27, ms_27, ma_28, ms_28, ma_29, ms_29, ma_30, ms_30, ma_31, ms_31, ma_32, ms_32, ma_33, ms_33, ma_34, ms_34, ma_35, ms_35, ma_36, ms_36, ma_37, ms_37, ma_38, ms_38, ma_39, ms_39, ma_40, ms_40, ma_41, ms_41, ma_42, ms_42, ma_43, ms_43, if_true, if_false, Option.bind_some, cb_e, lt_e, nI_1, hs_nar2, nh4, upd_at, vau_at, ma_30_18, ms_30_18, ma_31_18, ms_31_18, ma_28_0, ms_28_0, ma_28_1, ms_28_1, ma_28_2, ms_28_2, ma_28_3, ms_28_3, ma_28_4, ms_28_4, ma_42_0, ms_42_0, ma_42_1, ms_42_1, ma_42_2, ms_42_2, ma_36_0, ms_36_0, a1', f13', i9, if_pos b2f]
  · have eF := b6 (fun q => c q.1)
    have hz : ¬ F1 13 = 0 := by rw [f13]; exact nI_ne0 (by omega) (by omega)
    refine ⟨F2, 0, ?_, b1, fun k q1 q2 q3 => by rw [b3 k q1 q2 q3, a3 k q1 q2 q3], fun q => absurd q c⟩
    rw [eF]
    unfold fX12_tellPile_b63 fX12_tellPile_b89 fX12_tellPile_b90
    simp -implicitDefEqProofs (disch := first | assumption | omega | decide | exact And.intro (by omega) (by omega)) only [mck, mg_0, mp_0, mr_1, mg_2, mp_2, mr_3, mg_4, mp_4, mr_5, mr_6, mr_7, mr_8, mr_9, mg_10, mp_10, mg_11, mp_11, mg_12, mp_12, mg_13, mp_13, mg_14, mp_14, mg_15, mp_15, mg_16, mp_16, mg_17, mp_17, mg_18, mp_18, mg_19, mp_19, mg_20, mp_20, mr_21, mr_22, mr_23, mr_24, mr_25, mr_26, mr_27, mr_28, mr_29, mr_30, mr_31, mr_32, mg_33, mp_33, mr_34, mr_35, mr_36, mr_37, mr_38, mg_39, mp_39, mr_40, mr_41, mr_42, mg_43, mp_43, mr_44, mr_45, mg_46, mp_46, mr_47, mr_48, mg_49, mp_49, mg_50, mp_50, mg_51, mp_51, mr_52, mr_53, mr_54, mg_55, mp_55, mr_56, mr_57, mg_58, mp_58, mg_59, mp_59, mg_60, mp_60, mr_61, mg_62, mp_62, mr_63, mr_64, mr_65, mr_66, mr_67, mr_68, ma_1, ms_1, ma_2, ms_2, ma_3, ms_3, ma_4, ms_4, ma_5, ms_5, ma_6, ms_6, ma_7, ms_7, ma_8, ms_8, ma_9, ms_9, ma_10, ms_10, ma_11, ms_11, ma_12, ms_12, ma_13, ms_13, ma_14, ms_14, ma_15, ms_15, ma_16, ms_16, ma_17, ms_17, ma_18, ms_18, ma_19, ms_19, ma_20, ms_20, ma_21, ms_21, ma_22, ms_22, ma_23, ms_23, ma_24, ms_24, ma_25, ms_25, ma_26, ms_26, ma_27, ms_27, ma_28, ms_28, ma_29, ms_29, ma_30, ms_30, ma_31, ms_31, ma_32, ms_32, ma_33, ms_33, ma_34, ms_34, ma_35, ms_35, ma_36, ms_36, ma_37, ms_37, ma_38, ms_38, ma_39, ms_39, ma_40, ms_40, ma_41, ms_41, ma_42, ms_42, ma_43, ms_43, if_true, if_false, Option.bind_some, cb_e, lt_e, nI_1, hs_nar2, nh4, upd_at, vau_at, ma_30_18, ms_30_18, ma_31_18, ms_31_18, ma_28_0, ms_28_0, ma_28_1, ms_28_1, ma_28_2, ms_28_2, ma_28_3, ms_28_3, ma_28_4, ms_28_4, ma_42_0, ms_42_0, ma_42_1, ms_42_1, ma_42_2, ms_42_2, ma_36_0, ms_36_0, a1', if_neg hz]
theorem m_pile101 {F : Nat → Int32} {A : Nat → Nat → Int32} {B : Nat → Nat → Int64} {s w : Nat × Nat} {x1 x2 x4 x5 : Int32} (hK : TkK M K V) (hs : s.2 ≤ M) (hs2 : s.1 ≤ 2) (h : MPo F PL s.1 s.2) (hk : MTk A M K V PL) (hw : s.1 = 0 → SlM F w ∧ (¬ w.1 = 0 → w.2 < PL s.2)) (hpl : PL s.2 ≤ 2000) : ∃ F' v gl, fX12_tellPile_b101 K4 0 x1 x2 x4 x5 (mkM F A B) = fX12_tellPile_b143 K4 0 x1 x2 x4 x5 v gl (mkM F' A B) ∧ MPo F' PL (opt K 6 (stp K 17 s)).1 (opt K 6 (stp K 17 s)).2 ∧ (∀ k, ¬ (11 ≤ k ∧ k ≤ 16) → F' k = F k) ∧ F' 12 = F 12 ∧ ((stp K 17 s).1 = 0 → v = nI (V s.2) ∧ SlM F' (slp w (decide (V s.2 < 0 ∨ 999 < V s.2)) 5 (PL s.2)) ∧ gl = if K (stp K 17 s).2 = 6 then 1 else 0) := by
  obtain ⟨⟨l1, l2, l3⟩, l4⟩ := stp_ok hK (k := 17) (s := s) (by decide) hs hs2
  obtain ⟨F1, v, a1, a2, a3, a4, a5⟩ := m_bnd' (B := B) (lo := 0) (hi := 999) (w := w) hK hs h hk hw hpl (by decide) (by decide)
  obtain ⟨F2, b1, b3, b4, b5, b6⟩ := m_opt (B := B) hK (k := 6) l2 a2 hk rfl (by decide)
  have a1' : fX12_bounded 0 0 999 (mkM F A B) = some (v, mkM F1 A B) := a1
  have f13 := a2.1
  have fo : ∀ k, ¬ (11 ≤ k ∧ k ≤ 16) → F2 k = F k := fun k q => by rw [b3 k (by omega) (by omega) (by omega), a3 k q]
  have f12 : F2 12 = F 12 := by rw [b3 12 (by decide) (by decide) (by decide), a4]
  by_cases c : (stp K 17 s).1 = 0
  · have f13' : F1 13 = 0 := by rw [f13, c]; rfl
    have i9 : fX12_is 0 25 (mkM F1 A B) = some (b2 (decide (K (stp K 17 s).2 = 6)), mkM F1 A B) := b4 c
    obtain ⟨a6, a7⟩ := a5 c
    by_cases e : K (stp K 17 s).2 = 6
    · have g1 := b5 c e
      rw [decide_eq_true e] at i9
      have n0 : ¬ (1 : Int32) = 0 := by decide
      refine ⟨F2, v, 1, ?_, b1, fo, f12, fun _ => ⟨a6, a7.eq b3, by rw [if_pos e]⟩⟩
      unfold fX12_tellPile_b101 fX12_tellPile_b132
      simp -implicitDefEqProofs (disch := first | assumption | omega | decide | exact And.intro (by omega) (by omega)) only [mck, mg_0, mp_0, mr_1, mg_2, mp_2, mr_3, mg_4, mp_4, mr_5, mr_6, mr_7, mr_8, mr_9, mg_10, mp_10, mg_11, mp_11, mg_12, mp_12, mg_13, mp_13, mg_14, mp_14, mg_15, mp_15, mg_16, mp_16, mg_17, mp_17, mg_18, mp_18, mg_19, mp_19, mg_20, mp_20, mr_21, mr_22, mr_23, mr_24, mr_25, mr_26, mr_27, mr_28, mr_29, mr_30, mr_31, mr_32, mg_33, mp_33, mr_34, mr_35, mr_36, mr_37, mr_38, mg_39, mp_39, mr_40, mr_41, mr_42, mg_43, mp_43, mr_44, mr_45, mg_46, mp_46, mr_47, mr_48, mg_49, mp_49, mg_50, mp_50, mg_51, mp_51, mr_52, mr_53, mr_54, mg_55, mp_55, mr_56, mr_57, mg_58, mp_58, mg_59, mp_59, mg_60, mp_60, mr_61, mg_62, mp_62, mr_63, mr_64, mr_65, mr_66, mr_67, mr_68, ma_1, ms_1, ma_2, ms_2, ma_3, ms_3, ma_4, ms_4, ma_5, ms_5, ma_6, ms_6, ma_7, ms_7, ma_8, ms_8, ma_9, ms_9, ma_10, ms_10, ma_11, ms_11, ma_12, ms_12, ma_13, ms_13, ma_14, ms_14, ma_15, ms_15, ma_16, ms_16, ma_17, ms_17, ma_18, ms_18, ma_19, ms_19, ma_20, ms_20, ma_21, ms_21, ma_22, ms_22, ma_23, ms_23, ma_24, ms_24, ma_25, ms_25, ma_26, ms_26, ma_27, ms_27, ma_28, ms_28, ma_29, ms_29, ma_30, ms_30, ma_31, ms_31, ma_32, ms_32, ma_33, ms_33, ma_34, ms_34, ma_35, ms_35, ma_36, ms_36, ma_37, ms_37, ma_38, ms_38, ma_39, ms_39, ma_40, ms_40, ma_41, ms_41, ma_42, ms_42, ma_43, ms_43, if_true, if_false, Option.bind_some, cb_e, lt_e, nI_1, hs_nar2, nh4, upd_at, vau_at, ma_30_18, ms_30_18, ma_31_18, ms_31_18, ma_28_0, ms_28_0, ma_28_1, ms_28_1, ma_28_2, ms_28_2, ma_28_3, ms_28_3, ma_28_4, ms_28_4, ma_42_0, ms_42_0, ma_42_1, ms_42_1, ma_42_2, ms_42_2, ma_36_0, ms_36_0, a1', f13', i9, if_neg b2t, if_neg n0, g1]
    · have eF := b6 (fun q => e q.2)
      rw [decide_eq_false e] at i9
      refine ⟨F2, v, 0, ?_, b1, fo, f12, fun _ => ⟨a6, a7.eq b3, by rw [if_neg e]⟩⟩
      rw [eF]
      unfold fX12_tellPile_b101 fX12_tellPile_b131 fX12_tellPile_b132
      simp -implicitDefEqProofs (disch := first | assumption | omega | decide | exact And.intro (by omega) (by omega)) only [mck, mg_0, mp_0, mr_1, mg_2, mp_2, mr_3, mg_4, mp_4, mr_5, mr_6, mr_7, mr_8, mr_9, mg_10, mp_10, mg_11, mp_11, mg_12, mp_12, mg_13, mp_13, mg_14, mp_14, mg_15, mp_15, mg_16, mp_16, mg_17, mp_17, mg_18, mp_18, mg_19, mp_19, mg_20, mp_20, mr_21, mr_22, mr_23, mr_24, mr_25, mr_26, mr_27, mr_28, mr_29, mr_30, mr_31, mr_32, mg_33, mp_33, mr_34, mr_35, mr_36, mr_37, mr_38, mg_39, mp_39, mr_40, mr_41, mr_42, mg_43, mp_43, mr_44, mr_45, mg_46, mp_46, mr_47, mr_48, mg_49, mp_49, mg_50, mp_50, mg_51, mp_51, mr_52, mr_53, mr_54, mg_55, mp_55, mr_56, mr_57, mg_58, mp_58, mg_59, mp_59, mg_60, mp_60, mr_61, mg_62, mp_62, mr_63, mr_64, mr_65, mr_66, mr_67, mr_68, ma_1, ms_1, ma_2, ms_2, ma_3, ms_3, ma_4, ms_4, ma_5, ms_5, ma_6, ms_6, ma_7, ms_7, ma_8, ms_8, ma_9, ms_9, ma_10, ms_10, ma_11, ms_11, ma_12, ms_12, ma_13, ms_13, ma_14, ms_14, ma_15, ms_15, ma_16, ms_16, ma_17, ms_17, ma_18, ms_18, ma_19, ms_19, ma_20, ms_20, ma_21, ms_21, ma_22, ms_22, ma_23, ms_23, ma_24, ms_24, ma_25, ms_25, ma_26, ms_26, ma_27, ms_27, ma_28, ms_28, ma_29, ms_29, ma_30, ms_30, ma_31, ms_31, ma_32, ms_32, ma_33, ms_33, ma_34, ms_34, ma_35, ms_35, ma_36, ms_36, ma_37, ms_37, ma_38, ms_38, ma_39, ms_39, ma_40, ms_40, ma_41, ms_41, ma_42, ms_42, ma_43, ms_43, if_true, if_false, Option.bind_some, cb_e, lt_e, nI_1, hs_nar2, nh4, upd_at, vau_at, ma_30_18, ms_30_18, ma_31_18, ms_31_18, ma_28_0, ms_28_0, ma_28_1, ms_28_1, ma_28_2, ms_28_2, ma_28_3, ms_28_3, ma_28_4, ms_28_4, ma_42_0, ms_42_0, ma_42_1, ms_42_1, ma_42_2, ms_42_2, ma_36_0, ms_36_0, a1', f13', i9, if_pos b2f]
  · have eF := b6 (fun q => c q.1)
    have hz : ¬ F1 13 = 0 := by rw [f13]; exact nI_ne0 (by omega) (by omega)
    refine ⟨F2, v, 0, ?_, b1, fo, f12, fun q => absurd q c⟩
    rw [eF]
    unfold fX12_tellPile_b101 fX12_tellPile_b131 fX12_tellPile_b132
    simp -implicitDefEqProofs (disch := first | assumption | omega | decide | exact And.intro (by omega) (by omega)) only [mck, mg_0, mp_0, mr_1, mg_2, mp_2, mr_3, mg_4, mp_4, mr_5, mr_6, mr_7, mr_8, mr_9, mg_10, mp_10, mg_11, mp_11, mg_12, mp_12, mg_13, mp_13, mg_14, mp_14, mg_15, mp_15, mg_16, mp_16, mg_17, mp_17, mg_18, mp_18, mg_19, mp_19, mg_20, mp_20, mr_21, mr_22, mr_23, mr_24, mr_25, mr_26, mr_27, mr_28, mr_29, mr_30, mr_31, mr_32, mg_33, mp_33, mr_34, mr_35, mr_36, mr_37, mr_38, mg_39, mp_39, mr_40, mr_41, mr_42, mg_43, mp_43, mr_44, mr_45, mg_46, mp_46, mr_47, mr_48, mg_49, mp_49, mg_50, mp_50, mg_51, mp_51, mr_52, mr_53, mr_54, mg_55, mp_55, mr_56, mr_57, mg_58, mp_58, mg_59, mp_59, mg_60, mp_60, mr_61, mg_62, mp_62, mr_63, mr_64, mr_65, mr_66, mr_67, mr_68, ma_1, ms_1, ma_2, ms_2, ma_3, ms_3, ma_4, ms_4, ma_5, ms_5, ma_6, ms_6, ma_7, ms_7, ma_8, ms_8, ma_9, ms_9, ma_10, ms_10, ma_11, ms_11, ma_12, ms_12, ma_13, ms_13, ma_14, ms_14, ma_15, ms_15, ma_16, ms_16, ma_17, ms_17, ma_18, ms_18, ma_19, ms_19, ma_20, ms_20, ma_21, ms_21, ma_22, ms_22, ma_23, ms_23, ma_24, ms_24, ma_25, ms_25, ma_26, ms_26, ma_27, ms_27, ma_28, ms_28, ma_29, ms_29, ma_30, ms_30, ma_31, ms_31, ma_32, ms_32, ma_33, ms_33, ma_34, ms_34, ma_35, ms_35, ma_36, ms_36, ma_37, ms_37, ma_38, ms_38, ma_39, ms_39, ma_40, ms_40, ma_41, ms_41, ma_42, ms_42, ma_43, ms_43, if_true, if_false, Option.bind_some, cb_e, lt_e, nI_1, hs_nar2, nh4, upd_at, vau_at, ma_30_18, ms_30_18, ma_31_18, ms_31_18, ma_28_0, ms_28_0, ma_28_1, ms_28_1, ma_28_2, ms_28_2, ma_28_3, ms_28_3, ma_28_4, ms_28_4, ma_42_0, ms_42_0, ma_42_1, ms_42_1, ma_42_2, ms_42_2, ma_36_0, ms_36_0, a1', if_neg hz]
theorem m_pile143 {F : Nat → Int32} {A : Nat → Nat → Int32} {B : Nat → Nat → Int64} {n : Nat} {x2 x4 x5 x6 x7 : Int32} (hsd : sd ≤ 1) (h19 : F 19 = nI sd) (hn : n ≤ 400) : ∃ A', fX12_tellPile_b143 K4 0 (nI n) x2 x4 x5 x6 x7 (mkM F A B) = K4 0 (nI (n + 1)) x2 (mkM F A' B) ∧ (∀ a, ¬ a = 17 → A' a = A a) ∧ (∀ j, ¬ (20 * sd ≤ j ∧ j < 20 * sd + 18) → A' 17 j = A 17 j) ∧ (∀ i, i < n → n ≤ 6 → A' 17 (20 * sd + i) = A 17 (20 * sd + i) ∧ A' 17 (20 * sd + 6 + i) = A 17 (20 * sd + 6 + i) ∧ A' 17 (20 * sd + 12 + i) = A 17 (20 * sd + 12 + i)) ∧ (n < 6 → A' 17 (20 * sd + n) = x4 ∧ A' 17 (20 * sd + 6 + n) = (if x5 = 0 then x6 else -x6) ∧ A' 17 (20 * sd + 12 + n) = if x7 = 0 then 0 else 1) := by
  unfold fX12_tellPile_b143 fX12_tellPile_b194 fX12_tellPile_b221 fX12_tellPile_b222
  by_cases c : n < 6
  · have n6 : ¬ (6 : Int32) ≤ nI n := nI_ge (b := 6) c (by decide)
    have i1 : 20 * sd + n < 40 := by omega
    have i2 : 20 * sd + 6 + n < 40 := by omega
    have i3 : 20 * sd + 12 + n < 40 := by omega
    have fin : ∀ y z : Int32, (∀ a, ¬ a = 17 → (va_up (va_up (va_up A 17 (upd (A 17) (20 * sd + n) x4)) 17 (upd (upd (A 17) (20 * sd + n) x4) (20 * sd + 6 + n) y)) 17 (upd (upd (upd (A 17) (20 * sd + n) x4) (20 * sd + 6 + n) y) (20 * sd + 12 + n) z)) a = A a) ∧ (∀ j, ¬ (20 * sd ≤ j ∧ j < 20 * sd + 18) → (va_up (va_up (va_up A 17 (upd (A 17) (20 * sd + n) x4)) 17 (upd (upd (A 17) (20 * sd + n) x4) (20 * sd + 6 + n) y)) 17 (upd (upd (upd (A 17) (20 * sd + n) x4) (20 * sd + 6 + n) y) (20 * sd + 12 + n) z)) 17 j = A 17 j) ∧ (∀ i, i < n → n ≤ 6 → (va_up (va_up (va_up A 17 (upd (A 17) (20 * sd + n) x4)) 17 (upd (upd (A 17) (20 * sd + n) x4) (20 * sd + 6 + n) y)) 17 (upd (upd (upd (A 17) (20 * sd + n) x4) (20 * sd + 6 + n) y) (20 * sd + 12 + n) z)) 17 (20 * sd + i) = A 17 (20 * sd + i) ∧ (va_up (va_up (va_up A 17 (upd (A 17) (20 * sd + n) x4)) 17 (upd (upd (A 17) (20 * sd + n) x4) (20 * sd + 6 + n) y)) 17 (upd (upd (upd (A 17) (20 * sd + n) x4) (20 * sd + 6 + n) y) (20 * sd + 12 + n) z)) 17 (20 * sd + 6 + i) = A 17 (20 * sd + 6 + i) ∧ (va_up (va_up (va_up A 17 (upd (A 17) (20 * sd + n) x4)) 17 (upd (upd (A 17) (20 * sd + n) x4) (20 * sd + 6 + n) y)) 17 (upd (upd (upd (A 17) (20 * sd + n) x4) (20 * sd + 6 + n) y) (20 * sd + 12 + n) z)) 17 (20 * sd + 12 + i) = A 17 (20 * sd + 12 + i)) ∧ (n < 6 → (va_up (va_up (va_up A 17 (upd (A 17) (20 * sd + n) x4)) 17 (upd (upd (A 17) (20 * sd + n) x4) (20 * sd + 6 + n) y)) 17 (upd (upd (upd (A 17) (20 * sd + n) x4) (20 * sd + 6 + n) y) (20 * sd + 12 + n) z)) 17 (20 * sd + n) = x4 ∧ (va_up (va_up (va_up A 17 (upd (A 17) (20 * sd + n) x4)) 17 (upd (upd (A 17) (20 * sd + n) x4) (20 * sd + 6 + n) y)) 17 (upd (upd (upd (A 17) (20 * sd + n) x4) (20 * sd + 6 + n) y) (20 * sd + 12 + n) z)) 17 (20 * sd + 6 + n) = y ∧ (va_up (va_up (va_up A 17 (upd (A 17) (20 * sd + n) x4)) 17 (upd (upd (A 17) (20 * sd + n) x4) (20 * sd + 6 + n) y)) 17 (upd (upd (upd (A 17) (20 * sd + n) x4) (20 * sd + 6 + n) y) (20 * sd + 12 + n) z)) 17 (20 * sd + 12 + n) = z) := by
      intro y z
      refine ⟨fun a ha => by rw [vau_ne ha, vau_ne ha, vau_ne ha], ?_⟩
      rw [vau_at]
      refine ⟨fun j hj => ?_, fun i hi _ => ⟨?_, ?_, ?_⟩, fun _ => ⟨?_, ?_, ?_⟩⟩
      · rw [upd_ne (by omega), upd_ne (by omega), upd_ne (by omega)]
      · rw [upd_ne (by omega), upd_ne (by omega), upd_ne (by omega)]
      · rw [upd_ne (by omega), upd_ne (by omega), upd_ne (by omega)]
      · rw [upd_ne (by omega), upd_ne (by omega), upd_ne (by omega)]
      · rw [upd_ne (by omega), upd_ne (by omega), upd_at]
      · rw [upd_ne (by omega), upd_at]
      · rw [upd_at]
    by_cases c5 : x5 = 0
    · by_cases c7 : x7 = 0
      · refine ⟨_, ?_, by rw [if_pos c5, if_pos c7]; exact fin x6 0⟩
        simp -implicitDefEqProofs (disch := first | assumption | omega | decide | exact And.intro (by omega) (by omega)) only [mck, mg_0, mp_0, mr_1, mg_2, mp_2, mr_3, mg_4, mp_4, mr_5, mr_6, mr_7, mr_8, mr_9, mg_10, mp_10, mg_11, mp_11, mg_12, mp_12, mg_13, mp_13, mg_14, mp_14, mg_15, mp_15, mg_16, mp_16, mg_17, mp_17, mg_18, mp_18, mg_19, mp_19, mg_20, mp_20, mr_21, mr_22, mr_23, mr_24, mr_25, mr_26, mr_27, mr_28, mr_29, mr_30, mr_31, mr_32, mg_33, mp_33, mr_34, mr_35, mr_36, mr_37, mr_38, mg_39, mp_39, mr_40, mr_41, mr_42, mg_43, mp_43, mr_44, mr_45, mg_46, mp_46, mr_47, mr_48, mg_49, mp_49, mg_50, mp_50, mg_51, mp_51, mr_52, mr_53, mr_54, mg_55, mp_55, mr_56, mr_57, mg_58, mp_58, mg_59, mp_59, mg_60, mp_60, mr_61, mg_62, mp_62, mr_63, mr_64, mr_65, mr_66, mr_67, mr_68, ma_1, ms_1, ma_2, ms_2, ma_3, ms_3, ma_4, ms_4, ma_5, ms_5, ma_6, ms_6, ma_7, ms_7, ma_8, ms_8, ma_9, ms_9, ma_10, ms_10, ma_11, ms_11, ma_12, ms_12, ma_13, ms_13, ma_14, ms_14, ma_15, ms_15, ma_16, ms_16, ma_17, ms_17, ma_18, ms_18, ma_19, ms_19, ma_20, ms_20, ma_21, ms_21, ma_22, ms_22, ma_23, ms_23, ma_24, ms_24, ma_25, ms_25, ma_26, ms_26, ma_27, ms_27, ma_28, ms_28, ma_29, ms_29, ma_30, ms_30, ma_31, ms_31, ma_32, ms_32, ma_33, ms_33, ma_34, ms_34, ma_35, ms_35, ma_36, ms_36, ma_37, ms_37, ma_38, ms_38, ma_39, ms_39, ma_40, ms_40, ma_41, ms_41, ma_42, ms_42, ma_43, ms_43, if_true, if_false, Option.bind_some, cb_e, lt_e, nI_1, hs_nar2, nh4, upd_at, vau_at, ma_30_18, ms_30_18, ma_31_18, ms_31_18, ma_28_0, ms_28_0, ma_28_1, ms_28_1, ma_28_2, ms_28_2, ma_28_3, ms_28_3, ma_28_4, ms_28_4, ma_42_0, ms_42_0, ma_42_1, ms_42_1, ma_42_2, ms_42_2, ma_36_0, ms_36_0, if_neg n6, h19, twe_nI, twe6_nI, twe12_nI, if_pos c5, if_pos c7]
      · refine ⟨_, ?_, by rw [if_pos c5, if_neg c7]; exact fin x6 1⟩
        simp -implicitDefEqProofs (disch := first | assumption | omega | decide | exact And.intro (by omega) (by omega)) only [mck, mg_0, mp_0, mr_1, mg_2, mp_2, mr_3, mg_4, mp_4, mr_5, mr_6, mr_7, mr_8, mr_9, mg_10, mp_10, mg_11, mp_11, mg_12, mp_12, mg_13, mp_13, mg_14, mp_14, mg_15, mp_15, mg_16, mp_16, mg_17, mp_17, mg_18, mp_18, mg_19, mp_19, mg_20, mp_20, mr_21, mr_22, mr_23, mr_24, mr_25, mr_26, mr_27, mr_28, mr_29, mr_30, mr_31, mr_32, mg_33, mp_33, mr_34, mr_35, mr_36, mr_37, mr_38, mg_39, mp_39, mr_40, mr_41, mr_42, mg_43, mp_43, mr_44, mr_45, mg_46, mp_46, mr_47, mr_48, mg_49, mp_49, mg_50, mp_50, mg_51, mp_51, mr_52, mr_53, mr_54, mg_55, mp_55, mr_56, mr_57, mg_58, mp_58, mg_59, mp_59, mg_60, mp_60, mr_61, mg_62, mp_62, mr_63, mr_64, mr_65, mr_66, mr_67, mr_68, ma_1, ms_1, ma_2, ms_2, ma_3, ms_3, ma_4, ms_4, ma_5, ms_5, ma_6, ms_6, ma_7, ms_7, ma_8, ms_8, ma_9, ms_9, ma_10, ms_10, ma_11, ms_11, ma_12, ms_12, ma_13, ms_13, ma_14, ms_14, ma_15, ms_15, ma_16, ms_16, ma_17, ms_17, ma_18, ms_18, ma_19, ms_19, ma_20, ms_20, ma_21, ms_21, ma_22, ms_22, ma_23, ms_23, ma_24, ms_24, ma_25, ms_25, ma_26, ms_26, ma_27, ms_27, ma_28, ms_28, ma_29, ms_29, ma_30, ms_30, ma_31, ms_31, ma_32, ms_32, ma_33, ms_33, ma_34, ms_34, ma_35, ms_35, ma_36, ms_36, ma_37, ms_37, ma_38, ms_38, ma_39, ms_39, ma_40, ms_40, ma_41, ms_41, ma_42, ms_42, ma_43, ms_43, if_true, if_false, Option.bind_some, cb_e, lt_e, nI_1, hs_nar2, nh4, upd_at, vau_at, ma_30_18, ms_30_18, ma_31_18, ms_31_18, ma_28_0, ms_28_0, ma_28_1, ms_28_1, ma_28_2, ms_28_2, ma_28_3, ms_28_3, ma_28_4, ms_28_4, ma_42_0, ms_42_0, ma_42_1, ms_42_1, ma_42_2, ms_42_2, ma_36_0, ms_36_0, if_neg n6, h19, twe_nI, twe6_nI, twe12_nI, if_pos c5, if_neg c7]
    · by_cases c7 : x7 = 0
      · refine ⟨_, ?_, by rw [if_neg c5, if_pos c7]; exact fin (-x6) 0⟩
        simp -implicitDefEqProofs (disch := first | assumption | omega | decide | exact And.intro (by omega) (by omega)) only [mck, mg_0, mp_0, mr_1, mg_2, mp_2, mr_3, mg_4, mp_4, mr_5, mr_6, mr_7, mr_8, mr_9, mg_10, mp_10, mg_11, mp_11, mg_12, mp_12, mg_13, mp_13, mg_14, mp_14, mg_15, mp_15, mg_16, mp_16, mg_17, mp_17, mg_18, mp_18, mg_19, mp_19, mg_20, mp_20, mr_21, mr_22, mr_23, mr_24, mr_25, mr_26, mr_27, mr_28, mr_29, mr_30, mr_31, mr_32, mg_33, mp_33, mr_34, mr_35, mr_36, mr_37, mr_38, mg_39, mp_39, mr_40, mr_41, mr_42, mg_43, mp_43, mr_44, mr_45, mg_46, mp_46, mr_47, mr_48, mg_49, mp_49, mg_50, mp_50, mg_51, mp_51, mr_52, mr_53, mr_54, mg_55, mp_55, mr_56, mr_57, mg_58, mp_58, mg_59, mp_59, mg_60, mp_60, mr_61, mg_62, mp_62, mr_63, mr_64, mr_65, mr_66, mr_67, mr_68, ma_1, ms_1, ma_2, ms_2, ma_3, ms_3, ma_4, ms_4, ma_5, ms_5, ma_6, ms_6, ma_7, ms_7, ma_8, ms_8, ma_9, ms_9, ma_10, ms_10, ma_11, ms_11, ma_12, ms_12, ma_13, ms_13, ma_14, ms_14, ma_15, ms_15, ma_16, ms_16, ma_17, ms_17, ma_18, ms_18, ma_19, ms_19, ma_20, ms_20, ma_21, ms_21, ma_22, ms_22, ma_23, ms_23, ma_24, ms_24, ma_25, ms_25, ma_26, ms_26, ma_27, ms_27, ma_28, ms_28, ma_29, ms_29, ma_30, ms_30, ma_31, ms_31, ma_32, ms_32, ma_33, ms_33, ma_34, ms_34, ma_35, ms_35, ma_36, ms_36, ma_37, ms_37, ma_38, ms_38, ma_39, ms_39, ma_40, ms_40, ma_41, ms_41, ma_42, ms_42, ma_43, ms_43, if_true, if_false, Option.bind_some, cb_e, lt_e, nI_1, hs_nar2, nh4, upd_at, vau_at, ma_30_18, ms_30_18, ma_31_18, ms_31_18, ma_28_0, ms_28_0, ma_28_1, ms_28_1, ma_28_2, ms_28_2, ma_28_3, ms_28_3, ma_28_4, ms_28_4, ma_42_0, ms_42_0, ma_42_1, ms_42_1, ma_42_2, ms_42_2, ma_36_0, ms_36_0, if_neg n6, h19, twe_nI, twe6_nI, twe12_nI, if_neg c5, if_pos c7]
      · refine ⟨_, ?_, by rw [if_neg c5, if_neg c7]; exact fin (-x6) 1⟩
        simp -implicitDefEqProofs (disch := first | assumption | omega | decide | exact And.intro (by omega) (by omega)) only [mck, mg_0, mp_0, mr_1, mg_2, mp_2, mr_3, mg_4, mp_4, mr_5, mr_6, mr_7, mr_8, mr_9, mg_10, mp_10, mg_11, mp_11, mg_12, mp_12, mg_13, mp_13, mg_14, mp_14, mg_15, mp_15, mg_16, mp_16, mg_17, mp_17, mg_18, mp_18, mg_19, mp_19, mg_20, mp_20, mr_21, mr_22, mr_23, mr_24, mr_25, mr_26, mr_27, mr_28, mr_29, mr_30, mr_31, mr_32, mg_33, mp_33, mr_34, mr_35, mr_36, mr_37, mr_38, mg_39, mp_39, mr_40, mr_41, mr_42, mg_43, mp_43, mr_44, mr_45, mg_46, mp_46, mr_47, mr_48, mg_49, mp_49, mg_50, mp_50, mg_51, mp_51, mr_52, mr_53, mr_54, mg_55, mp_55, mr_56, mr_57, mg_58, mp_58, mg_59, mp_59, mg_60, mp_60, mr_61, mg_62, mp_62, mr_63, mr_64, mr_65, mr_66, mr_67, mr_68, ma_1, ms_1, ma_2, ms_2, ma_3, ms_3, ma_4, ms_4, ma_5, ms_5, ma_6, ms_6, ma_7, ms_7, ma_8, ms_8, ma_9, ms_9, ma_10, ms_10, ma_11, ms_11, ma_12, ms_12, ma_13, ms_13, ma_14, ms_14, ma_15, ms_15, ma_16, ms_16, ma_17, ms_17, ma_18, ms_18, ma_19, ms_19, ma_20, ms_20, ma_21, ms_21, ma_22, ms_22, ma_23, ms_23, ma_24, ms_24, ma_25, ms_25, ma_26, ms_26, ma_27, ms_27, ma_28, ms_28, ma_29, ms_29, ma_30, ms_30, ma_31, ms_31, ma_32, ms_32, ma_33, ms_33, ma_34, ms_34, ma_35, ms_35, ma_36, ms_36, ma_37, ms_37, ma_38, ms_38, ma_39, ms_39, ma_40, ms_40, ma_41, ms_41, ma_42, ms_42, ma_43, ms_43, if_true, if_false, Option.bind_some, cb_e, lt_e, nI_1, hs_nar2, nh4, upd_at, vau_at, ma_30_18, ms_30_18, ma_31_18, ms_31_18, ma_28_0, ms_28_0, ma_28_1, ms_28_1, ma_28_2, ms_28_2, ma_28_3, ms_28_3, ma_28_4, ms_28_4, ma_42_0, ms_42_0, ma_42_1, ms_42_1, ma_42_2, ms_42_2, ma_36_0, ms_36_0, if_neg n6, h19, twe_nI, twe6_nI, twe12_nI, if_neg c5, if_neg c7]
  · have n6 : (6 : Int32) ≤ nI n := nI_le (a := 6) (by omega) (by omega)
    refine ⟨A, ?_, fun _ _ => rfl, fun _ _ => rfl, fun _ _ _ => ⟨rfl, rfl, rfl⟩, fun q => absurd q c⟩
    simp -implicitDefEqProofs (disch := first | assumption | omega | decide | exact And.intro (by omega) (by omega)) only [mck, mg_0, mp_0, mr_1, mg_2, mp_2, mr_3, mg_4, mp_4, mr_5, mr_6, mr_7, mr_8, mr_9, mg_10, mp_10, mg_11, mp_11, mg_12, mp_12, mg_13, mp_13, mg_14, mp_14, mg_15, mp_15, mg_16, mp_16, mg_17, mp_17, mg_18, mp_18, mg_19, mp_19, mg_20, mp_20, mr_21, mr_22, mr_23, mr_24, mr_25, mr_26, mr_27, mr_28, mr_29, mr_30, mr_31, mr_32, mg_33, mp_33, mr_34, mr_35, mr_36, mr_37, mr_38, mg_39, mp_39, mr_40, mr_41, mr_42, mg_43, mp_43, mr_44, mr_45, mg_46, mp_46, mr_47, mr_48, mg_49, mp_49, mg_50, mp_50, mg_51, mp_51, mr_52, mr_53, mr_54, mg_55, mp_55, mr_56, mr_57, mg_58, mp_58, mg_59, mp_59, mg_60, mp_60, mr_61, mg_62, mp_62, mr_63, mr_64, mr_65, mr_66, mr_67, mr_68, ma_1, ms_1, ma_2, ms_2, ma_3, ms_3, ma_4, ms_4, ma_5, ms_5, ma_6, ms_6, ma_7, ms_7, ma_8, ms_8, ma_9, ms_9, ma_10, ms_10, ma_11, ms_11, ma_12, ms_12, ma_13, ms_13, ma_14, ms_14, ma_15, ms_15, ma_16, ms_16, ma_17, ms_17, ma_18, ms_18, ma_19, ms_19, ma_20, ms_20, ma_21, ms_21, ma_22, ms_22, ma_23, ms_23, ma_24, ms_24, ma_25, ms_25, ma_26, ms_26, ma_27, ms_27, ma_28, ms_28, ma_29, ms_29, ma_30, ms_30, ma_31, ms_31, ma_32, ms_32, ma_33, ms_33, ma_34, ms_34, ma_35, ms_35, ma_36, ms_36, ma_37, ms_37, ma_38, ms_38, ma_39, ms_39, ma_40, ms_40, ma_41, ms_41, ma_42, ms_42, ma_43, ms_43, if_true, if_false, Option.bind_some, cb_e, lt_e, nI_1, hs_nar2, nh4, upd_at, vau_at, ma_30_18, ms_30_18, ma_31_18, ms_31_18, ma_28_0, ms_28_0, ma_28_1, ms_28_1, ma_28_2, ms_28_2, ma_28_3, ms_28_3, ma_28_4, ms_28_4, ma_42_0, ms_42_0, ma_42_1, ms_42_1, ma_42_2, ms_42_2, ma_36_0, ms_36_0, if_pos n6]
theorem m_piled {F : Nat → Int32} {A : Nat → Nat → Int32} {B : Nat → Nat → Int64} {w : Nat × Nat} {t nb n s fuel : Nat} {hs : Int32} {g : Nat → List Nat} {tw : Bool} (hK : TkK M K V) (hsd : sd ≤ 1) (ht : t ≤ M) (hp : MPo F PL 0 t) (hk : MTk A M K V PL) (hnm : ∀ j, j ≤ M → K j = 16 → B 6 j = jN (cN 27 (NM j)) ∧ Nam (NM j)) (hw : SlM F w) (hlt : ¬ w.1 = 0 → w.2 < PL t) (hmono : ∀ a b, a < b → b ≤ M → PL a < PL b) (hpl : ∀ a, a ≤ M → PL a ≤ 2000) (h19 : F 19 = nI sd) (h20 : F 20 = nI nb) (hnb : nb ≤ 6) (hg : ∀ i, i < nb → B 8 i = jN (cN 27 (g i)) ∧ Nam (g i)) (hn : n ≤ 400) (e16 : K t = 16) (hb : w.1 = 0 → (hs = nI s ∧ s < 64) ∧ ((pi4 K t).1 = 0 → ∀ b, fndN g (NM t) nb 0 = some b → (tw = true ↔ s / 2 ^ b % 2 = 1))) : ∃ F' A' hs', fX12_tellPile_b4 (fuel + 1) 0 (nI n) hs (mkM F A B) = fX12_tellPile_b4 fuel 0 (nI (n + 1)) hs' (mkM F' A' B) ∧ MPo F' PL (pi4 K t).1 (pi4 K t).2 ∧ (∀ k, ¬ (11 ≤ k ∧ k ≤ 16) → F' k = F k) ∧ F' 12 = F 12 ∧ (∀ a, ¬ a = 17 → A' a = A a) ∧ (∀ j, ¬ (20 * sd ≤ j ∧ j < 20 * sd + 18) → A' 17 j = A 17 j) ∧ (∀ i, i < n → n ≤ 6 → A' 17 (20 * sd + i) = A 17 (20 * sd + i) ∧ A' 17 (20 * sd + 6 + i) = A 17 (20 * sd + 6 + i) ∧ A' 17 (20 * sd + 12 + i) = A 17 (20 * sd + 12 + i)) ∧ ((pi4 K t).1 = 0 → SlM F' (slP K V PL w (decide (fndN g (NM t) nb 0 = none)) tw t) ∧ ((slP K V PL w (decide (fndN g (NM t) nb 0 = none)) tw t).1 = 0 → ∃ b, fndN g (NM t) nb 0 = some b ∧ (hs' = nI (s + 2 ^ b) ∧ s + 2 ^ b < 64) ∧ (∀ c, c < 6 → ((s + 2 ^ b) / 2 ^ c % 2 = 1 ↔ (c = b ∨ s / 2 ^ c % 2 = 1))) ∧ (n < 6 → A' 17 (20 * sd + n) = nI b ∧ A' 17 (20 * sd + 6 + n) = iI (piV K V t) ∧ A' 17 (20 * sd + 12 + n) = piG K t))) := by
  have hM := hK.1
  obtain ⟨y, y1, y2, y3⟩ := hp.2.1
  rw [y3 rfl] at y2
  have f13 : F 13 = 0 := hp.1
  obtain ⟨⟨m1, m2⟩, ⟨m3, m4⟩, ⟨m5, m6⟩, ⟨m7, m8⟩, i4, i3, i2, i1, i5⟩ := pi_ok hK ht
  obtain ⟨⟨l1, l2, l3⟩, l4⟩ := stp_ok hK (k := 16) (s := (0, t)) (by decide) ht (Nat.zero_le _)
  have is1 : fX12_is 0 1 (mkM F A B) = some (b2 (decide (K t = 16)), mkM F A B) := m_is (B := B) hK ht hp hk (k := 16) rfl
  rw [decide_eq_true e16] at is1
  obtain ⟨F1, x, a1, a2, a3, a4, a5, a6⟩ := m_knw (NM := NM) (B := B) (w := w) (g := g) (s := (0, t)) hK ht hp hk hnm (fun _ => ⟨hw, hlt⟩) (hpl _ ht) h20 hnb hg
  have h63 : ∃ F2 hs', fX12_tellPile_b4 (fuel + 1) 0 (nI n) hs (mkM F A B) = fX12_tellPile_b63 (fX12_tellPile_b4 fuel) 0 (nI n) hs' x (mkM F2 A B) ∧ MPo F2 PL (stp K 16 (0, t)).1 (stp K 16 (0, t)).2 ∧ (∀ k, ¬ (11 ≤ k ∧ k ≤ 16) → F2 k = F k) ∧ F2 12 = F 12 ∧ ((stp K 16 (0, t)).1 = 0 → ∃ tw', SlM F2 (slp (slp w (decide (fndN g (NM t) nb 0 = none)) 4 (PL t)) tw' 3 (PL t))) ∧ ((pi4 K t).1 = 0 → SlM F2 (slp (slp w (decide (fndN g (NM t) nb 0 = none)) 4 (PL t)) tw 3 (PL t)) ∧ ((slp (slp w (decide (fndN g (NM t) nb 0 = none)) 4 (PL t)) tw 3 (PL t)).1 = 0 → ∃ b, fndN g (NM t) nb 0 = some b ∧ x = nI b ∧ (hs' = nI (s + 2 ^ b) ∧ s + 2 ^ b < 64) ∧ (∀ c, c < 6 → ((s + 2 ^ b) / 2 ^ c % 2 = 1 ↔ (c = b ∨ s / 2 ^ c % 2 = 1))))) := by
    have neg : x = -1 → fX12_tellPile_b4 (fuel + 1) 0 (nI n) hs (mkM F A B) = fX12_tellPile_b63 (fX12_tellPile_b4 fuel) 0 (nI n) hs x (mkM F1 A B) := fun ex => by
      have n0 : (-1 : Int32) < 0 := by decide
      rw [ex] at a1 ⊢
      rw [fX12_tellPile_b4]
      unfold fX12_tellPile_b51
      simp -implicitDefEqProofs (disch := first | assumption | omega | decide | exact And.intro (by omega) (by omega)) only [mck, mg_0, mp_0, mr_1, mg_2, mp_2, mr_3, mg_4, mp_4, mr_5, mr_6, mr_7, mr_8, mr_9, mg_10, mp_10, mg_11, mp_11, mg_12, mp_12, mg_13, mp_13, mg_14, mp_14, mg_15, mp_15, mg_16, mp_16, mg_17, mp_17, mg_18, mp_18, mg_19, mp_19, mg_20, mp_20, mr_21, mr_22, mr_23, mr_24, mr_25, mr_26, mr_27, mr_28, mr_29, mr_30, mr_31, mr_32, mg_33, mp_33, mr_34, mr_35, mr_36, mr_37, mr_38, mg_39, mp_39, mr_40, mr_41, mr_42, mg_43, mp_43, mr_44, mr_45, mg_46, mp_46, mr_47, mr_48, mg_49, mp_49, mg_50, mp_50, mg_51, mp_51, mr_52, mr_53, mr_54, mg_55, mp_55, mr_56, mr_57, mg_58, mp_58, mg_59, mp_59, mg_60, mp_60, mr_61, mg_62, mp_62, mr_63, mr_64, mr_65, mr_66, mr_67, mr_68, ma_1, ms_1, ma_2, ms_2, ma_3, ms_3, ma_4, ms_4, ma_5, ms_5, ma_6, ms_6, ma_7, ms_7, ma_8, ms_8, ma_9, ms_9, ma_10, ms_10, ma_11, ms_11, ma_12, ms_12, ma_13, ms_13, ma_14, ms_14, ma_15, ms_15, ma_16, ms_16, ma_17, ms_17, ma_18, ms_18, ma_19, ms_19, ma_20, ms_20, ma_21, ms_21, ma_22, ms_22, ma_23, ms_23, ma_24, ms_24, ma_25, ms_25, ma_26, ms_26, ma_27, ms_27, ma_28, ms_28, ma_29, ms_29, ma_30, ms_30, ma_31, ms_31, ma_32, ms_32, ma_33, ms_33, ma_34, ms_34, ma_35, ms_35, ma_36, ms_36, ma_37, ms_37, ma_38, ms_38, ma_39, ms_39, ma_40, ms_40, ma_41, ms_41, ma_42, ms_42, ma_43, ms_43, if_true, if_false, Option.bind_some, cb_e, lt_e, nI_1, hs_nar2, nh4, upd_at, vau_at, ma_30_18, ms_30_18, ma_31_18, ms_31_18, ma_28_0, ms_28_0, ma_28_1, ms_28_1, ma_28_2, ms_28_2, ma_28_3, ms_28_3, ma_28_4, ms_28_4, ma_42_0, ms_42_0, ma_42_1, ms_42_1, ma_42_2, ms_42_2, ma_36_0, ms_36_0, f13, is1, if_neg b2t, y2, a1, if_pos n0]
    by_cases c : (stp K 16 (0, t)).1 = 0
    · obtain ⟨c1, c2⟩ := a6 c
      cases hq : fndN g (NM t) nb 0 with
      | none =>
        have hq' : fndN g (NM (0, t).2) nb 0 = none := hq
        rw [hq'] at c1 c2
        have c2' : SlM F1 (slp w (decide ((none : Option Nat) = none)) 4 (PL t)) := c2
        have wn : ¬ (slp w (decide ((none : Option Nat) = none)) 4 (PL t)).1 = 0 := fun q => absurd (slp_0 (by decide) q).2 (by decide)
        refine ⟨F1, hs, neg c1, a2, a3, a4, fun _ => ⟨false, by rw [slp_f]; exact c2'⟩, fun _ => ?_⟩
        rw [slp_n0 (b := tw) wn]
        exact ⟨c2', fun q => absurd q wn⟩
      | some b =>
        have hq' : fndN g (NM (0, t).2) nb 0 = some b := hq
        rw [hq'] at c1 c2
        have ex : x = nI b := c1
        have ib := fndN_lt _ _ _ hq
        have n0 : ¬ nI b < 0 := nI_pos (by omega)
        have b6 : b < 6 := by omega
        have c2' : SlM F1 w := by
          have : SlM F1 (slp w (decide (some b = none)) 4 (PL t)) := c2
          rw [decide_eq_false (by intro q; cases q), slp_f] at this
          exact this
        have f113 : F1 13 = 0 := by rw [a2.1, c]; rfl
        have ew : slp w (decide (some b = none)) 4 (PL t) = w := by
          rw [decide_eq_false (by intro q; cases q), slp_f]
        rw [ew, ex]
        rw [ex] at a1
        obtain ⟨F2, w1, w2, w3⟩ := m_wr (B := B) (A := A) (PL := PL) (k := 3) (j := t) f113 c2' (by decide) (fun q => Or.inl (hlt q)) (by omega) (hk _ ht).2.1 (hpl _ ht)
        have w1' : fX12_wrong 0 3 (nI t) (mkM F1 A B) = some ((), mkM F2 A B) := w1
        by_cases cb : ((hs >>> (nI b &&& 31)) &&& (1 : Int32)) = 1
        · refine ⟨F2, hs ||| ((1 : Int32) <<< (nI b &&& 31)), ?_, a2.eq (w3 11 (by decide) (by decide)) (w3 13 (by decide) (by decide)) (w3 14 (by decide) (by decide)), fun k q => by rw [w3 k (by omega) (by omega), a3 k q], by rw [w3 12 (by decide) (by decide), a4], fun _ => ⟨true, w2⟩, fun z4 => ?_⟩
          · rw [fX12_tellPile_b4]
            unfold fX12_tellPile_b51
            simp -implicitDefEqProofs (disch := first | assumption | omega | decide | exact And.intro (by omega) (by omega)) only [mck, mg_0, mp_0, mr_1, mg_2, mp_2, mr_3, mg_4, mp_4, mr_5, mr_6, mr_7, mr_8, mr_9, mg_10, mp_10, mg_11, mp_11, mg_12, mp_12, mg_13, mp_13, mg_14, mp_14, mg_15, mp_15, mg_16, mp_16, mg_17, mp_17, mg_18, mp_18, mg_19, mp_19, mg_20, mp_20, mr_21, mr_22, mr_23, mr_24, mr_25, mr_26, mr_27, mr_28, mr_29, mr_30, mr_31, mr_32, mg_33, mp_33, mr_34, mr_35, mr_36, mr_37, mr_38, mg_39, mp_39, mr_40, mr_41, mr_42, mg_43, mp_43, mr_44, mr_45, mg_46, mp_46, mr_47, mr_48, mg_49, mp_49, mg_50, mp_50, mg_51, mp_51, mr_52, mr_53, mr_54, mg_55, mp_55, mr_56, mr_57, mg_58, mp_58, mg_59, mp_59, mg_60, mp_60, mr_61, mg_62, mp_62, mr_63, mr_64, mr_65, mr_66, mr_67, mr_68, ma_1, ms_1, ma_2, ms_2, ma_3, ms_3, ma_4, ms_4, ma_5, ms_5, ma_6, ms_6, ma_7, ms_7, ma_8, ms_8, ma_9, ms_9, ma_10, ms_10, ma_11, ms_11, ma_12, ms_12, ma_13, ms_13, ma_14, ms_14, ma_15, ms_15, ma_16, ms_16, ma_17, ms_17, ma_18, ms_18, ma_19, ms_19, ma_20, ms_20, ma_21, ms_21, ma_22, ms_22, ma_23, ms_23, ma_24, ms_24, ma_25, ms_25, ma_26, ms_26, ma_27, ms_27, ma_28, ms_28, ma_29, ms_29, ma_30, ms_30, ma_31, ms_31, ma_32, ms_32, ma_33, ms_33, ma_34, ms_34, ma_35, ms_35, ma_36, ms_36, ma_37, ms_37, ma_38, ms_38, ma_39, ms_39, ma_40, ms_40, ma_41, ms_41, ma_42, ms_42, ma_43, ms_43, if_true, if_false, Option.bind_some, cb_e, lt_e, nI_1, hs_nar2, nh4, upd_at, vau_at, ma_30_18, ms_30_18, ma_31_18, ms_31_18, ma_28_0, ms_28_0, ma_28_1, ms_28_1, ma_28_2, ms_28_2, ma_28_3, ms_28_3, ma_28_4, ms_28_4, ma_42_0, ms_42_0, ma_42_1, ms_42_1, ma_42_2, ms_42_2, ma_36_0, ms_36_0, f13, is1, if_neg b2t, y2, a1, if_neg n0, if_pos cb, w1']
          · by_cases w0 : w.1 = 0
            · obtain ⟨⟨e1, e2⟩, e3⟩ := hb w0
              rw [e1, bit_m s e2 b b6] at cb
              have tb : tw = true := (e3 z4 b hq).2 ((nI_eq (b := 1) (by omega) (by decide)).1 cb)
              rw [tb]
              exact ⟨w2, fun q => absurd (slp_0 (by decide) q).2 (by decide)⟩
            · rw [slp_n0 w0] at w2 ⊢
              exact ⟨w2, fun q => absurd q w0⟩
        · refine ⟨F1, hs ||| ((1 : Int32) <<< (nI b &&& 31)), ?_, a2, a3, a4, fun _ => ⟨false, by rw [slp_f]; exact c2'⟩, fun z4 => ?_⟩
          · rw [fX12_tellPile_b4]
            unfold fX12_tellPile_b51
            simp -implicitDefEqProofs (disch := first | assumption | omega | decide | exact And.intro (by omega) (by omega)) only [mck, mg_0, mp_0, mr_1, mg_2, mp_2, mr_3, mg_4, mp_4, mr_5, mr_6, mr_7, mr_8, mr_9, mg_10, mp_10, mg_11, mp_11, mg_12, mp_12, mg_13, mp_13, mg_14, mp_14, mg_15, mp_15, mg_16, mp_16, mg_17, mp_17, mg_18, mp_18, mg_19, mp_19, mg_20, mp_20, mr_21, mr_22, mr_23, mr_24, mr_25, mr_26, mr_27, mr_28, mr_29, mr_30, mr_31, mr_32, mg_33, mp_33, mr_34, mr_35, mr_36, mr_37, mr_38, mg_39, mp_39, mr_40, mr_41, mr_42, mg_43, mp_43, mr_44, mr_45, mg_46, mp_46, mr_47, mr_48, mg_49, mp_49, mg_50, mp_50, mg_51, mp_51, mr_52, mr_53, mr_54, mg_55, mp_55, mr_56, mr_57, mg_58, mp_58, mg_59, mp_59, mg_60, mp_60, mr_61, mg_62, mp_62, mr_63, mr_64, mr_65, mr_66, mr_67, mr_68, ma_1, ms_1, ma_2, ms_2, ma_3, ms_3, ma_4, ms_4, ma_5, ms_5, ma_6, ms_6, ma_7, ms_7, ma_8, ms_8, ma_9, ms_9, ma_10, ms_10, ma_11, ms_11, ma_12, ms_12, ma_13, ms_13, ma_14, ms_14, ma_15, ms_15, ma_16, ms_16, ma_17, ms_17, ma_18, ms_18, ma_19, ms_19, ma_20, ms_20, ma_21, ms_21, ma_22, ms_22, ma_23, ms_23, ma_24, ms_24, ma_25, ms_25, ma_26, ms_26, ma_27, ms_27, ma_28, ms_28, ma_29, ms_29, ma_30, ms_30, ma_31, ms_31, ma_32, ms_32, ma_33, ms_33, ma_34, ms_34, ma_35, ms_35, ma_36, ms_36, ma_37, ms_37, ma_38, ms_38, ma_39, ms_39, ma_40, ms_40, ma_41, ms_41, ma_42, ms_42, ma_43, ms_43, if_true, if_false, Option.bind_some, cb_e, lt_e, nI_1, hs_nar2, nh4, upd_at, vau_at, ma_30_18, ms_30_18, ma_31_18, ms_31_18, ma_28_0, ms_28_0, ma_28_1, ms_28_1, ma_28_2, ms_28_2, ma_28_3, ms_28_3, ma_28_4, ms_28_4, ma_42_0, ms_42_0, ma_42_1, ms_42_1, ma_42_2, ms_42_2, ma_36_0, ms_36_0, f13, is1, if_neg b2t, y2, a1, if_neg n0, if_neg cb]
          · by_cases w0 : w.1 = 0
            · obtain ⟨⟨e1, e2⟩, e3⟩ := hb w0
              rw [e1, bit_m s e2 b b6] at cb
              have nb1 : ¬ s / 2 ^ b % 2 = 1 := fun q => cb (by rw [q]; rfl)
              have tb : tw = false := by
                cases tw with
                | false => rfl
                | true => exact absurd ((e3 z4 b hq).1 rfl) nb1
              obtain ⟨s1, s2⟩ := bit_set s e2 b b6 nb1
              rw [tb, slp_f, e1]
              exact ⟨c2', fun _ => ⟨b, rfl, rfl, ⟨s2, s1⟩, bit_sj s e2 b b6 nb1⟩⟩
            · rw [slp_n0 w0]
              exact ⟨c2', fun q => absurd q w0⟩
    · exact ⟨F1, hs, neg (a5 c), a2, a3, a4, fun q => absurd q c, fun z4 => absurd (i1 (i2 (i3 (i4 z4)).1).1).1 c⟩
  obtain ⟨F2, hs', r1, r2, r3, r4, r8, r5⟩ := h63
  rw [r1]
  obtain ⟨F3, be, d1, d2, d3, d4⟩ := m_pile63 (B := B) (K4 := fX12_tellPile_b4 fuel) (x1 := nI n) (x2 := hs') (x4 := x) hK l2 l3 r2 hk
  rw [d1]
  have d2' : MPo F3 PL (pi2 K t).1 (pi2 K t).2 := d2
  generalize hw2 : slp (slp w (decide (fndN g (NM t) nb 0 = none)) 4 (PL t)) tw 3 (PL t) = w2 at *
  have w2lt : ∀ q, t < q → q ≤ M → ¬ w2.1 = 0 → w2.2 < PL q := fun q hq hqm => by
    rw [← hw2]
    exact slp_lt (p0 := PL q) (slp_lt (p0 := PL t) hlt (Nat.le_of_lt (hmono _ _ hq hqm)) (hmono _ _ hq hqm)) (Nat.le_refl _) (hmono _ _ hq hqm)
  by_cases z4 : (pi4 K t).1 = 0
  · have z3 := i4 z4
    obtain ⟨z2, z17⟩ := i3 z3
    obtain ⟨z1, z1'⟩ := i2 z2
    obtain ⟨r6, r7⟩ := r5 z4
    obtain ⟨F4, v, gl, f1, f2, f3, f4, f5⟩ := m_pile101 (B := B) (K4 := fX12_tellPile_b4 fuel) (x1 := nI n) (x2 := hs') (x4 := x) (x5 := be) (w := w2) hK m3 m4 d2' hk (fun _ => ⟨r6.eq d3, w2lt _ (by omega) m3⟩) (hpl _ m3)
    rw [f1]
    obtain ⟨f6, f7, f8⟩ := f5 z3
    obtain ⟨A', g1, g2, g3, g4, g5⟩ := m_pile143 (F := F4) (A := A) (B := B) (K4 := fX12_tellPile_b4 fuel) (n := n) (x2 := hs') (x4 := x) (x5 := be) (x6 := v) (x7 := gl) hsd (by rw [f3 19 (by decide), d3 19 (by decide) (by decide) (by decide), r3 19 (by decide)]; exact h19) hn
    refine ⟨F4, A', hs', g1, f2, fun k q => by rw [f3 k q, d3 k (by omega) (by omega) (by omega), r3 k q], by rw [f4, d3 12 (by decide) (by decide) (by decide), r4], g2, g3, g4, fun _ => ⟨?_, fun q => ?_⟩⟩
    · unfold slP
      rw [hw2]
      exact f7
    · have q2 : w2.1 = 0 := by
        unfold slP at q
        rw [hw2] at q
        exact (slp_0 (by decide) q).1
      obtain ⟨b, k1, k2, k3, k4⟩ := r7 q2
      refine ⟨b, k1, k3, k4, fun n6 => ?_⟩
      obtain ⟨g6, g7, g8⟩ := g5 n6
      have ebe : be = if K (pi1 K t).2 = 45 then 1 else 0 := d4 z1
      have egl : gl = piG K t := f8
      refine ⟨by rw [g6]; exact k2, ?_, ?_⟩
      · rw [g7, ebe, f6]
        unfold piV
        by_cases c : K (pi1 K t).2 = 45
        · rw [if_pos c, if_pos c, if_neg (show ¬ (1 : Int32) = 0 by decide), iI_nI, iI_neg]
        · rw [if_neg c, if_neg c, if_pos rfl, iI_nI]
      · rw [g8, egl]
        unfold piG
        by_cases c : K (pi3 K t).2 = 6
        · rw [if_pos c, if_neg (show ¬ (1 : Int32) = 0 by decide)]
        · rw [if_neg c, if_pos rfl]
  · have h101 : ∃ F4 v gl, fX12_tellPile_b101 (fX12_tellPile_b4 fuel) 0 (nI n) hs' x be (mkM F3 A B) = fX12_tellPile_b143 (fX12_tellPile_b4 fuel) 0 (nI n) hs' x be v gl (mkM F4 A B) ∧ MPo F4 PL (pi4 K t).1 (pi4 K t).2 ∧ (∀ k, ¬ (11 ≤ k ∧ k ≤ 16) → F4 k = F3 k) ∧ F4 12 = F3 12 := by
      by_cases z2 : (pi2 K t).1 = 0
      · have sl3 : ∃ w3 : Nat × Nat, SlM F3 w3 ∧ (¬ w3.1 = 0 → w3.2 < PL (pi2 K t).2) := by
          obtain ⟨z1, z1'⟩ := i2 z2
          obtain ⟨z0, _, _⟩ := i1 z1
          obtain ⟨tw', s1⟩ := r8 z0
          have lt := hmono t (pi2 K t).2 (by omega) m3
          exact ⟨_, s1.eq d3, slp_lt (p0 := PL (pi2 K t).2) (slp_lt (p0 := PL t) hlt (Nat.le_of_lt lt) lt) (Nat.le_refl _) lt⟩
        obtain ⟨w3, s1, s2⟩ := sl3
        obtain ⟨F4, v, gl, f1, f2, f3, f4, f5⟩ := m_pile101 (B := B) (K4 := fX12_tellPile_b4 fuel) (x1 := nI n) (x2 := hs') (x4 := x) (x5 := be) (w := w3) hK m3 m4 d2' hk (fun _ => ⟨s1, s2⟩) (hpl _ m3)
        exact ⟨F4, v, gl, f1, f2, f3, f4⟩
      · obtain ⟨F4, v, gl, f1, f2, f3, f4, f5⟩ := m_pile101 (B := B) (K4 := fX12_tellPile_b4 fuel) (x1 := nI n) (x2 := hs') (x4 := x) (x5 := be) (w := w2) hK m3 m4 d2' hk (fun q => absurd q z2) (hpl _ m3)
        exact ⟨F4, v, gl, f1, f2, f3, f4⟩
    obtain ⟨F4, v, gl, f1, f2, f3, f4⟩ := h101
    rw [f1]
    obtain ⟨A', g1, g2, g3, g4, g5⟩ := m_pile143 (F := F4) (A := A) (B := B) (K4 := fX12_tellPile_b4 fuel) (n := n) (x2 := hs') (x4 := x) (x5 := be) (x6 := v) (x7 := gl) hsd (by rw [f3 19 (by decide), d3 19 (by decide) (by decide) (by decide), r3 19 (by decide)]; exact h19) hn
    exact ⟨F4, A', hs', g1, f2, fun k q => by rw [f3 k q, d3 k (by omega) (by omega) (by omega), r3 k q], by rw [f4, d3 12 (by decide) (by decide) (by decide), r4], g2, g3, g4, fun q => absurd q z4⟩
end P97
