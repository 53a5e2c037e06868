/-! ===== a book is told: the model, from its first token on ===== -/
section B91
variable {sd M : Nat} {K V : Nat → Nat} {NM : Nat → List Nat} {PL : Nat → Nat}
theorem six_nI {a b : Nat} : (6 : Int32) * nI a + nI b = nI (6 * a + b) := by
  have e : (6 : Int32) * nI a = nI (6 * a) := (Int32.ofNat_mul 6 a).symm
  rw [e, nI_add]
theorem m_book_s {F : Nat → Int32} {A : Nat → Nat → Int32} {B : Nat → Nat → Int64} {w : Nat × Nat} {t nb : Nat} {g : Nat → List Nat} (hK : TkK M K V) (hsd : sd ≤ 1) (ht : t ≤ M) (h : MPo F PL 0 t) (hk : MTk A M K V PL) (hnm : ∀ j, j ≤ M → K j = 16 → B 6 j = jN (cN 27 (NM j)) ∧ Nam (NM j)) (hw : SlM F w) (hlt : ¬ w.1 = 0 → w.2 < PL t) (hpl : ∀ a, a ≤ M → PL a ≤ 2000) (h19 : F 19 = nI sd) (h20 : F 20 = nI nb) (h9 : A 9 sd = nI nb) (hnb : nb < 6) (hg : ∀ i, i < nb → B 8 i = jN (cN 27 (g i)) ∧ Nam (g i)) : ∃ F', MPo F' PL (stp K 16 (0, t)).1 (stp K 16 (0, t)).2 ∧ (∀ k, ¬ (11 ≤ k ∧ k ≤ 16) → F' k = F k) ∧ F' 12 = F 12 ∧ ((stp K 16 (0, t)).1 = 0 → SlM F' (slp w (decide (¬ fndN g (NM t) nb 0 = none)) 3 (PL t))) ∧ fX12_tellBook 0 (mkM F A B) = fX12_tellBook_b73 0 (nI (6 * sd + nb)) (nI t) (mkM F' A B) := by
  have hM := hK.1
  obtain ⟨y, y1, y2, y3⟩ := h.2.1
  rw [y3 rfl] at y2
  have sd2 : sd < 2 := by omega
  obtain ⟨F1, a1, a2, a3⟩ := m_stp (B := B) hK (k := 16) (s := (0, t)) ht h hk rfl (by decide)
  have a1' : fX12_must 0 1 (mkM F A B) = some ((), mkM F1 A B) := a1
  have e20 : F1 20 = nI nb := by rw [a3 20 (by decide) (by decide) (by decide)]; exact h20
  have head : fX12_tellBook 0 (mkM F A B) = fX12_tellBook_b30 FU 0 (nI (6 * sd + nb)) (nI t) (nI 0) (mkM F1 A B) := by
    unfold fX12_tellBook
    simp -implicitDefEqProofs (disch := first | assumption | omega | decide | exact And.intro (by omega) (by omega)) only [mck, mg_0, mp_0, mr_1, mg_2, mp_2, mr_3, mg_4, mp_4, mr_5, mr_6, mr_7, mr_8, mr_9, mg_10, mp_10, mg_11, mp_11, mg_12, mp_12, mg_13, mp_13, mg_14, mp_14, mg_15, mp_15, mg_16, mp_16, mg_17, mp_17, mg_18, mp_18, mg_19, mp_19, mg_20, mp_20, mr_21, mr_22, mr_23, mr_24, mr_25, mr_26, mr_27, mr_28, mr_29, mr_30, mr_31, mr_32, mg_33, mp_33, mr_34, mr_35, mr_36, mr_37, mr_38, mg_39, mp_39, mr_40, mr_41, mr_42, mg_43, mp_43, mr_44, mr_45, mg_46, mp_46, mr_47, mr_48, mg_49, mp_49, mg_50, mp_50, mg_51, mp_51, mr_52, mr_53, mr_54, mg_55, mp_55, mr_56, mr_57, mg_58, mp_58, mg_59, mp_59, mg_60, mp_60, mr_61, mg_62, mp_62, mr_63, mr_64, mr_65, mr_66, mr_67, mr_68, ma_1, ms_1, ma_2, ms_2, ma_3, ms_3, ma_4, ms_4, ma_5, ms_5, ma_6, ms_6, ma_7, ms_7, ma_8, ms_8, ma_9, ms_9, ma_10, ms_10, ma_11, ms_11, ma_12, ms_12, ma_13, ms_13, ma_14, ms_14, ma_15, ms_15, ma_16, ms_16, ma_17, ms_17, ma_18, ms_18, ma_19, ms_19, ma_20, ms_20, ma_21, ms_21, ma_22, ms_22, ma_23, ms_23, ma_24, ms_24, ma_25, ms_25, ma_26, ms_26, ma_27, ms_27, ma_28, ms_28, ma_29, ms_29, ma_30, ms_30, ma_31, ms_31, ma_32, ms_32, ma_33, ms_33, ma_34, ms_34, ma_35, ms_35, ma_36, ms_36, ma_37, ms_37, ma_38, ms_38, ma_39, ms_39, ma_40, ms_40, ma_41, ms_41, ma_42, ms_42, ma_43, ms_43, if_true, if_false, Option.bind_some, cb_e, lt_e, nI_1, hs_nar2, nh4, upd_at, vau_at, ma_30_18, ms_30_18, ma_31_18, ms_31_18, ma_28_0, ms_28_0, ma_28_1, ms_28_1, ma_28_2, ms_28_2, ma_28_3, ms_28_3, ma_28_4, ms_28_4, ma_42_0, ms_42_0, ma_42_1, ms_42_1, ma_42_2, ms_42_2, ma_36_0, ms_36_0, h19, h9, six_nI, y2, a1']
    rfl
  have f13 := a2.1
  by_cases cz : (stp K 16 (0, t)).1 = 0
  · obtain ⟨_, _, k16, _⟩ := (stp_ok hK (k := 16) (s := (0, t)) (by decide) ht (Nat.zero_le _)).2 cz
    obtain ⟨n1, n2⟩ := hnm t ht k16
    have f13' : F1 13 = 0 := by rw [f13, cz]; rfl
    obtain ⟨F2, b1, b2, b3⟩ := m_book_go (B := B) (A := A) (PL := PL) (x := nI (6 * sd + nb)) (n := nb) (j := t) (by omega) hg n2 (by omega) n1 (hk t ht).2.1 (hpl t ht) nb 0 FU F1 w (by omega) (by unfold FU; omega) e20 f13' (hw.eq a3) (fun q => Or.inl (hlt q))
    exact ⟨F2, a2.eq (b3 11 (by decide) (by decide)) (b3 13 (by decide) (by decide)) (b3 14 (by decide) (by decide)), fun k q => by rw [b3 k (by omega) (by omega), a3 k (by omega) (by omega) (by omega)], by rw [b3 12 (by decide) (by decide), a3 12 (by decide) (by decide) (by decide)], fun _ => b2, by rw [head, b1]⟩
  · refine ⟨F1, a2, fun k q => a3 k (by omega) (by omega) (by omega), a3 12 (by decide) (by decide) (by decide), fun q => absurd q cz, ?_⟩
    have l2 := a2.2.2.2
    have hz : ¬ nI (stp K 16 (0, t)).1 = 0 := nI_ne0 (by omega) (by omega)
    obtain ⟨q, hq⟩ : ∃ q, FU = q + 1 := ⟨FU - 1, by unfold FU; omega⟩
    rw [head, hq, fX12_tellBook_b30]
    simp -implicitDefEqProofs (disch := first | assumption | omega | decide | exact And.intro (by omega) (by omega)) only [mck, mg_0, mp_0, mr_1, mg_2, mp_2, mr_3, mg_4, mp_4, mr_5, mr_6, mr_7, mr_8, mr_9, mg_10, mp_10, mg_11, mp_11, mg_12, mp_12, mg_13, mp_13, mg_14, mp_14, mg_15, mp_15, mg_16, mp_16, mg_17, mp_17, mg_18, mp_18, mg_19, mp_19, mg_20, mp_20, mr_21, mr_22, mr_23, mr_24, mr_25, mr_26, mr_27, mr_28, mr_29, mr_30, mr_31, mr_32, mg_33, mp_33, mr_34, mr_35, mr_36, mr_37, mr_38, mg_39, mp_39, mr_40, mr_41, mr_42, mg_43, mp_43, mr_44, mr_45, mg_46, mp_46, mr_47, mr_48, mg_49, mp_49, mg_50, mp_50, mg_51, mp_51, mr_52, mr_53, mr_54, mg_55, mp_55, mr_56, mr_57, mg_58, mp_58, mg_59, mp_59, mg_60, mp_60, mr_61, mg_62, mp_62, mr_63, mr_64, mr_65, mr_66, mr_67, mr_68, ma_1, ms_1, ma_2, ms_2, ma_3, ms_3, ma_4, ms_4, ma_5, ms_5, ma_6, ms_6, ma_7, ms_7, ma_8, ms_8, ma_9, ms_9, ma_10, ms_10, ma_11, ms_11, ma_12, ms_12, ma_13, ms_13, ma_14, ms_14, ma_15, ms_15, ma_16, ms_16, ma_17, ms_17, ma_18, ms_18, ma_19, ms_19, ma_20, ms_20, ma_21, ms_21, ma_22, ms_22, ma_23, ms_23, ma_24, ms_24, ma_25, ms_25, ma_26, ms_26, ma_27, ms_27, ma_28, ms_28, ma_29, ms_29, ma_30, ms_30, ma_31, ms_31, ma_32, ms_32, ma_33, ms_33, ma_34, ms_34, ma_35, ms_35, ma_36, ms_36, ma_37, ms_37, ma_38, ms_38, ma_39, ms_39, ma_40, ms_40, ma_41, ms_41, ma_42, ms_42, ma_43, ms_43, if_true, if_false, Option.bind_some, cb_e, lt_e, nI_1, hs_nar2, nh4, upd_at, vau_at, ma_30_18, ms_30_18, ma_31_18, ms_31_18, ma_28_0, ms_28_0, ma_28_1, ms_28_1, ma_28_2, ms_28_2, ma_28_3, ms_28_3, ma_28_4, ms_28_4, ma_42_0, ms_42_0, ma_42_1, ms_42_1, ma_42_2, ms_42_2, ma_36_0, ms_36_0, e20, f13]
    by_cases c0 : nI nb ≤ nI 0
    · rw [if_pos c0]
    · rw [if_neg c0, if_neg hz]
end B91
