/-! ===== the model reads expressions: the whole ===== -/
section MX81
variable {cb M : Nat} {K V PL : Nat → Nat} {B : Nat → Nat → Int64}
theorem pD_end (hK : TkK M K V) : ∀ d n0, 8 ≤ d + n0 → SpE M K n0 (fun k => k = 43 ∨ k = 45 ∨ (k = 42 ∨ k = 47 ∨ False)) (pD K V d)
  | 0, n0, hd => fun n t h1 h2 h3 => by omega
  | d + 1, n0, hd => by
    rw [pD_eq]
    have u := pU_ok (n0 := n0) hK (pD_ok hK d (n0 + 1) (by omega))
    exact pJ_end hK (by decide) (by decide) (pJ_ok hK u (by decide) (by decide)) (pJ_end hK (by decide) (by decide) u (fun _ _ _ _ _ _ q => q))
theorem m_pD (hcb : cb ≤ 420) (hK : TkK M K V) : ∀ d n0, 8 ≤ d + n0 → MIm cb M K V PL B 2 (pD K V d) n0
  | 0, n0, hd => fun n t c W F A f fu h1 h2 h3 => by omega
  | d + 1, n0, hd => by
    rw [pD_eq]
    have u := pU_ok (n0 := n0) hK (pD_ok hK d (n0 + 1) (by omega))
    have mu := m_unit_im (PL := PL) (B := B) hcb hK (fun k h => by omega) (pD_ok hK d (n0 + 1) (by omega)) (pD_end hK d (n0 + 1) (by omega)) (m_pD hcb hK d (n0 + 1) (by omega))
    refine m_join (l := 1) (z := 0) hcb hK (by decide) rfl (fun k h => ?_) (fun t F A f ht hp hk h => ?_) (pJ_ok hK u (by decide) (by decide)) (m_join (l := 0) (z := 1) hcb hK (by decide) rfl (fun k h => ?_) (fun t F A f ht hp hk h => ?_) u mu)
    · rcases h with h | h <;> subst h <;> exact ⟨⟨by decide, by decide⟩, rfl, rfl, fun _ => rfl, rfl⟩
    · rw [m_145 hK ht hp hk, if_pos h]
      rfl
    · rcases h with h | h <;> subst h <;> exact ⟨⟨by decide, by decide⟩, rfl, rfl, fun q => absurd q (by decide), rfl⟩
    · rw [m_145 hK ht hp hk, if_neg (by omega), if_pos h]
      rfl
theorem m_expr {t c : Nat} {F : Nat → Int32} {A : Nat → Nat → Int32} (hcb : cb ≤ 420) (hK : TkK M K V) (ht : t ≤ M) (hp : MPo F PL 0 t) (hk : MTk A M K V PL) (h12 : F 12 = 0) (h39 : F 39 = nI c) (hc : c ≤ cb + t) : ∃ F' A', fX12_expression 0 (mkM F A B) = some ((), mkM F' A' B) ∧ MPo F' PL (pD K V 8 0 t).1 (pD K V 8 0 t).2.1 ∧ MTr c (cb + 402) F F' A A' ∧ ((pD K V 8 0 t).1 = 0 → F' 12 = 0 ∧ F' 39 = nI (c + (pD K V 8 0 t).2.2.length) ∧ SegM A' c (pD K V 8 0 t).2.2) := by
  have hM := hK.1
  obtain ⟨q, hq⟩ : ∃ q, FU = q + 1 := ⟨FU - 1, by unfold FU; omega⟩
  have hq4 : 402 ≤ q := by unfold FU at hq; omega
  have hp1 : MPo (upd F 43 0) PL 0 t := hp.eq (upd_ne (by decide)) (upd_ne (by decide)) (upd_ne (by decide))
  have tr1 : MTr c (cb + 402) F (upd F 43 0) A A := ⟨fun k q1 q2 q3 q4 q5 q6 => upd_ne q6, fun _ _ _ _ => rfl, fun _ _ => ⟨rfl, rfl⟩, c, by rw [upd_ne (by decide)]; exact h39, Nat.le_refl _, by omega⟩
  have e0 : fX12_expression 0 (mkM F A B) = OW q FU (mkM (upd F 43 0) A B) := by
    unfold fX12_expression
    simp -implicitDefEqProofs (disch := first | assumption | omega | decide | exact And.intro (by omega) (by omega)) only [mck, mg_0, mp_0, mr_1, mg_2, mp_2, mr_3, mg_4, mp_4, mr_5, mr_6, mr_7, mr_8, mr_9, mg_10, mp_10, mg_11, mp_11, mg_12, mp_12, mg_13, mp_13, mg_14, mp_14, mg_15, mp_15, mg_16, mp_16, mg_17, mp_17, mg_18, mp_18, mg_19, mp_19, mg_20, mp_20, mr_21, mr_22, mr_23, mr_24, mr_25, mr_26, mr_27, mr_28, mr_29, mr_30, mr_31, mr_32, mg_33, mp_33, mr_34, mr_35, mr_36, mr_37, mr_38, mg_39, mp_39, mr_40, mr_41, mr_42, mg_43, mp_43, mr_44, mr_45, mg_46, mp_46, mr_47, mr_48, mg_49, mp_49, mg_50, mp_50, mg_51, mp_51, mr_52, mr_53, mr_54, mg_55, mp_55, mr_56, mr_57, mg_58, mp_58, mg_59, mp_59, mg_60, mp_60, mr_61, mg_62, mp_62, mr_63, mr_64, mr_65, mr_66, mr_67, mr_68, ma_1, ms_1, ma_2, ms_2, ma_3, ms_3, ma_4, ms_4, ma_5, ms_5, ma_6, ms_6, ma_7, ms_7, ma_8, ms_8, ma_9, ms_9, ma_10, ms_10, ma_11, ms_11, ma_12, ms_12, ma_13, ms_13, ma_14, ms_14, ma_15, ms_15, ma_16, ms_16, ma_17, ms_17, ma_18, ms_18, ma_19, ms_19, ma_20, ms_20, ma_21, ms_21, ma_22, ms_22, ma_23, ms_23, ma_24, ms_24, ma_25, ms_25, ma_26, ms_26, ma_27, ms_27, ma_28, ms_28, ma_29, ms_29, ma_30, ms_30, ma_31, ms_31, ma_32, ms_32, ma_33, ms_33, ma_34, ms_34, ma_35, ms_35, ma_36, ms_36, ma_37, ms_37, ma_38, ms_38, ma_39, ms_39, ma_40, ms_40, ma_41, ms_41, ma_42, ms_42, ma_43, ms_43, if_true, if_false, Option.bind_some, cb_e, lt_e, nI_1, hs_nar2, nh4, upd_at, vau_at, ma_30_18, ms_30_18, ma_31_18, ms_31_18, ma_28_0, ms_28_0, ma_28_1, ms_28_1, ma_28_2, ms_28_2, ma_28_3, ms_28_3, ma_28_4, ms_28_4, ma_42_0, ms_42_0, ma_42_1, ms_42_1, ma_42_2, ms_42_2, ma_36_0, ms_36_0, upd_ne, h12]
    have := m_12 (B := B) (A := A) (f := q) hp1
    rw [if_pos rfl] at this
    rw [← this, ← hq]
  obtain ⟨u1, u2⟩ := m_pD (B := B) (PL := PL) hcb hK 8 0 (by decide) 0 t c [] (upd F 43 0) A q FU (Nat.le_refl _) (by decide) ht ⟨⟨hp1, hk⟩, by rw [upd_ne (by decide)]; exact h12, upd_at _ _ _, trivial, by rw [upd_ne (by decide)]; exact h39, by show c + 0 ≤ _; omega⟩ (by decide) (fun _ => ⟨rfl, rfl⟩) (by omega) (by omega)
  obtain ⟨⟨s1, s2, s3⟩, s4⟩ := pD_ok hK 8 0 (by decide) 0 t (by decide) (by decide) ht
  by_cases cE : (pD K V 8 0 t).1 = 0
  · have nq := pD_end hK 8 0 (by decide) 0 t (by decide) (by decide) ht cE
    obtain ⟨F2, A2, f2, fu2, P2, L2, v1, v2, v3, v4, v5, v6, v7, v8⟩ := u2 cE
    rw [List.append_nil] at v2
    obtain ⟨⟨hp2, hk2⟩, p12, p43, pWA, p39, pc⟩ := id v2
    have pl := v5.1
    obtain ⟨fu2, rfl⟩ : ∃ q, fu2 = q + 1 := ⟨fu2 - 1, by omega⟩
    obtain ⟨t3, t4⟩ := cT_app (x := 0) (W := []) ⟨rfl, rfl⟩ (P := P2) v5.2
    rw [List.append_nil] at t3 t4
    obtain ⟨F3, A3, z1, z2, z3, z4, z5, z6, z7, z8⟩ := m_comes (B := B) (x := 0) (lim := cb + 402) (by decide) (by omega) p43 pWA p39 (by omega) (by omega)
    have z1' : fX12_comesOut 0 0 (mkM F2 A2 B) = some ((), mkM F3 A3 B) := z1
    rw [t3] at z4 z5
    have p12' : F2 12 = 0 := p12
    have z0 : (0 : Int32) ≤ 0 := by decide
    refine ⟨F3, A3, ?_, ?_, (tr1.tr v6 (Nat.le_refl _)).tr z8 (by omega), fun _ => ⟨by rw [z2 12 (by decide) (by decide)]; exact p12', ?_, ?_⟩⟩
    · rw [e0, v1]
      unfold AO
      rw [m_96 hK s2 hp2 hk2 p12 (by decide) (fun q => absurd q.2 (by decide)), m_145 hK s2 hp2 hk2, if_neg (fun q => nq (by omega)), if_neg (fun q => nq (by omega))]
      unfold fX12_expression_b191 fX12_expression_b204
      simp -implicitDefEqProofs (disch := first | assumption | omega | decide | exact And.intro (by omega) (by omega)) only [mck, mg_0, mp_0, mr_1, mg_2, mp_2, mr_3, mg_4, mp_4, mr_5, mr_6, mr_7, mr_8, mr_9, mg_10, mp_10, mg_11, mp_11, mg_12, mp_12, mg_13, mp_13, mg_14, mp_14, mg_15, mp_15, mg_16, mp_16, mg_17, mp_17, mg_18, mp_18, mg_19, mp_19, mg_20, mp_20, mr_21, mr_22, mr_23, mr_24, mr_25, mr_26, mr_27, mr_28, mr_29, mr_30, mr_31, mr_32, mg_33, mp_33, mr_34, mr_35, mr_36, mr_37, mr_38, mg_39, mp_39, mr_40, mr_41, mr_42, mg_43, mp_43, mr_44, mr_45, mg_46, mp_46, mr_47, mr_48, mg_49, mp_49, mg_50, mp_50, mg_51, mp_51, mr_52, mr_53, mr_54, mg_55, mp_55, mr_56, mr_57, mg_58, mp_58, mg_59, mp_59, mg_60, mp_60, mr_61, mg_62, mp_62, mr_63, mr_64, mr_65, mr_66, mr_67, mr_68, ma_1, ms_1, ma_2, ms_2, ma_3, ms_3, ma_4, ms_4, ma_5, ms_5, ma_6, ms_6, ma_7, ms_7, ma_8, ms_8, ma_9, ms_9, ma_10, ms_10, ma_11, ms_11, ma_12, ms_12, ma_13, ms_13, ma_14, ms_14, ma_15, ms_15, ma_16, ms_16, ma_17, ms_17, ma_18, ms_18, ma_19, ms_19, ma_20, ms_20, ma_21, ms_21, ma_22, ms_22, ma_23, ms_23, ma_24, ms_24, ma_25, ms_25, ma_26, ms_26, ma_27, ms_27, ma_28, ms_28, ma_29, ms_29, ma_30, ms_30, ma_31, ms_31, ma_32, ms_32, ma_33, ms_33, ma_34, ms_34, ma_35, ms_35, ma_36, ms_36, ma_37, ms_37, ma_38, ms_38, ma_39, ms_39, ma_40, ms_40, ma_41, ms_41, ma_42, ms_42, ma_43, ms_43, if_true, if_false, Option.bind_some, cb_e, lt_e, nI_1, hs_nar2, nh4, upd_at, vau_at, ma_30_18, ms_30_18, ma_31_18, ms_31_18, ma_28_0, ms_28_0, ma_28_1, ms_28_1, ma_28_2, ms_28_2, ma_28_3, ms_28_3, ma_28_4, ms_28_4, ma_42_0, ms_42_0, ma_42_1, ms_42_1, ma_42_2, ms_42_2, ma_36_0, ms_36_0, p12', if_pos z0, z1']
    · rw [cE]
      exact hp2.eq (z2 11 (by decide) (by decide)) (z2 13 (by decide) (by decide)) (z2 14 (by decide) (by decide))
    · rw [z4, v4, List.length_append, List.length_map, Nat.add_assoc]
    · rw [v4]
      exact SegM.app _ (v3.eq (fun j _ hj => z8.2.2.1 j (Or.inl hj))) z5
  · obtain ⟨F2, A2, v1, v2, v3⟩ := u1 cE
    exact ⟨F2, A2, by rw [e0, v1], v2, tr1.tr v3 (Nat.le_refl _), fun q => absurd q cE⟩
theorem m_exprF {fa t : Nat} {F : Nat → Int32} {A : Nat → Nat → Int32} (hp : MPo F PL fa t) (hf : ¬ fa = 0) : fX12_expression 0 (mkM F A B) = some ((), mkM (upd F 43 0) A B) := by
  obtain ⟨q, hq⟩ : ∃ q, FU = q + 1 := ⟨FU - 1, by unfold FU; omega⟩
  have f3 := hp.1
  have hz : ¬ nI fa = 0 := nI_ne0 (by omega) (by have := hp.2.2.2; omega)
  unfold fX12_expression
  simp -implicitDefEqProofs (disch := first | assumption | omega | decide | exact And.intro (by omega) (by omega)) only [mck, mg_0, mp_0, mr_1, mg_2, mp_2, mr_3, mg_4, mp_4, mr_5, mr_6, mr_7, mr_8, mr_9, mg_10, mp_10, mg_11, mp_11, mg_12, mp_12, mg_13, mp_13, mg_14, mp_14, mg_15, mp_15, mg_16, mp_16, mg_17, mp_17, mg_18, mp_18, mg_19, mp_19, mg_20, mp_20, mr_21, mr_22, mr_23, mr_24, mr_25, mr_26, mr_27, mr_28, mr_29, mr_30, mr_31, mr_32, mg_33, mp_33, mr_34, mr_35, mr_36, mr_37, mr_38, mg_39, mp_39, mr_40, mr_41, mr_42, mg_43, mp_43, mr_44, mr_45, mg_46, mp_46, mr_47, mr_48, mg_49, mp_49, mg_50, mp_50, mg_51, mp_51, mr_52, mr_53, mr_54, mg_55, mp_55, mr_56, mr_57, mg_58, mp_58, mg_59, mp_59, mg_60, mp_60, mr_61, mg_62, mp_62, mr_63, mr_64, mr_65, mr_66, mr_67, mr_68, ma_1, ms_1, ma_2, ms_2, ma_3, ms_3, ma_4, ms_4, ma_5, ms_5, ma_6, ms_6, ma_7, ms_7, ma_8, ms_8, ma_9, ms_9, ma_10, ms_10, ma_11, ms_11, ma_12, ms_12, ma_13, ms_13, ma_14, ms_14, ma_15, ms_15, ma_16, ms_16, ma_17, ms_17, ma_18, ms_18, ma_19, ms_19, ma_20, ms_20, ma_21, ms_21, ma_22, ms_22, ma_23, ms_23, ma_24, ms_24, ma_25, ms_25, ma_26, ms_26, ma_27, ms_27, ma_28, ms_28, ma_29, ms_29, ma_30, ms_30, ma_31, ms_31, ma_32, ms_32, ma_33, ms_33, ma_34, ms_34, ma_35, ms_35, ma_36, ms_36, ma_37, ms_37, ma_38, ms_38, ma_39, ms_39, ma_40, ms_40, ma_41, ms_41, ma_42, ms_42, ma_43, ms_43, if_true, if_false, Option.bind_some, cb_e, lt_e, nI_1, hs_nar2, nh4, upd_at, vau_at, ma_30_18, ms_30_18, ma_31_18, ms_31_18, ma_28_0, ms_28_0, ma_28_1, ms_28_1, ma_28_2, ms_28_2, ma_28_3, ms_28_3, ma_28_4, ms_28_4, ma_42_0, ms_42_0, ma_42_1, ms_42_1, ma_42_2, ms_42_2, ma_36_0, ms_36_0, upd_ne]
  rw [hq, fX12_expression_b12, if_neg (by decide)]
  simp -implicitDefEqProofs (disch := first | assumption | omega | decide | exact And.intro (by omega) (by omega)) only [mck, mg_0, mp_0, mr_1, mg_2, mp_2, mr_3, mg_4, mp_4, mr_5, mr_6, mr_7, mr_8, mr_9, mg_10, mp_10, mg_11, mp_11, mg_12, mp_12, mg_13, mp_13, mg_14, mp_14, mg_15, mp_15, mg_16, mp_16, mg_17, mp_17, mg_18, mp_18, mg_19, mp_19, mg_20, mp_20, mr_21, mr_22, mr_23, mr_24, mr_25, mr_26, mr_27, mr_28, mr_29, mr_30, mr_31, mr_32, mg_33, mp_33, mr_34, mr_35, mr_36, mr_37, mr_38, mg_39, mp_39, mr_40, mr_41, mr_42, mg_43, mp_43, mr_44, mr_45, mg_46, mp_46, mr_47, mr_48, mg_49, mp_49, mg_50, mp_50, mg_51, mp_51, mr_52, mr_53, mr_54, mg_55, mp_55, mr_56, mr_57, mg_58, mp_58, mg_59, mp_59, mg_60, mp_60, mr_61, mg_62, mp_62, mr_63, mr_64, mr_65, mr_66, mr_67, mr_68, ma_1, ms_1, ma_2, ms_2, ma_3, ms_3, ma_4, ms_4, ma_5, ms_5, ma_6, ms_6, ma_7, ms_7, ma_8, ms_8, ma_9, ms_9, ma_10, ms_10, ma_11, ms_11, ma_12, ms_12, ma_13, ms_13, ma_14, ms_14, ma_15, ms_15, ma_16, ms_16, ma_17, ms_17, ma_18, ms_18, ma_19, ms_19, ma_20, ms_20, ma_21, ms_21, ma_22, ms_22, ma_23, ms_23, ma_24, ms_24, ma_25, ms_25, ma_26, ms_26, ma_27, ms_27, ma_28, ms_28, ma_29, ms_29, ma_30, ms_30, ma_31, ms_31, ma_32, ms_32, ma_33, ms_33, ma_34, ms_34, ma_35, ms_35, ma_36, ms_36, ma_37, ms_37, ma_38, ms_38, ma_39, ms_39, ma_40, ms_40, ma_41, ms_41, ma_42, ms_42, ma_43, ms_43, if_true, if_false, Option.bind_some, cb_e, lt_e, nI_1, hs_nar2, nh4, upd_at, vau_at, ma_30_18, ms_30_18, ma_31_18, ms_31_18, ma_28_0, ms_28_0, ma_28_1, ms_28_1, ma_28_2, ms_28_2, ma_28_3, ms_28_3, ma_28_4, ms_28_4, ma_42_0, ms_42_0, ma_42_1, ms_42_1, ma_42_2, ms_42_2, ma_36_0, ms_36_0, upd_ne, f3, if_neg hz]
end MX81
