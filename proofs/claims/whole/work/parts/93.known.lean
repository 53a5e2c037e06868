/-! ===== names known and ints within bounds, in both ===== -/
section N93
variable {d M : Nat} {K V : Nat → Nat} {NM : Nat → List Nat} {PL : Nat → Nat} {r : Nat → Nat}
theorem SlM.wr {F : Nat → Int32} {w : Nat × Nat} {k p : Nat} (h : SlM F w) (hk : k ≤ 5) : SlM (wrF F w.1 k p) (slp w true k p) := by
  unfold slp wrF
  by_cases c : w.1 = 0
  · rw [if_pos c, if_pos (show w.1 = 0 ∧ true = true from ⟨c, rfl⟩)]
    exact ⟨hk, by rw [upd_ne (by decide), upd_at], fun _ => upd_at _ _ _⟩
  · rw [if_neg c, if_neg (fun q => c q.1)]
    exact h
theorem m_knw {F : Nat → Int32} {A : Nat → Nat → Int32} {B : Nat → Nat → Int64} (hK : TkK M K V) {s w : Nat × Nat} {nb : Nat} {g : Nat → List Nat} (hs : s.2 ≤ M) (h : MPo F PL s.1 s.2) (hk : MTk A M K V PL) (hnm : ∀ j, j ≤ M → K j = 16 → B 6 j = jN (cN 27 (NM j)) ∧ Nam (NM j)) (hw : s.1 = 0 → SlM F w ∧ (¬ w.1 = 0 → w.2 < PL s.2)) (hpl : PL s.2 ≤ 2000) (h20 : F 20 = nI nb) (hnb : nb ≤ 6) (hg : ∀ i, i < nb → B 8 i = jN (cN 27 (g i)) ∧ Nam (g i)) : ∃ F' x, fX12_known 0 (mkM F A B) = some (x, mkM F' A B) ∧ MPo F' PL (stp K 16 s).1 (stp K 16 s).2 ∧ (∀ k, ¬ (11 ≤ k ∧ k ≤ 16) → F' k = F k) ∧ F' 12 = F 12 ∧ (¬ (stp K 16 s).1 = 0 → x = -1) ∧ ((stp K 16 s).1 = 0 → x = rF (-1) (fndN g (NM s.2) nb 0) ∧ SlM F' (slp w (decide (fndN g (NM s.2) nb 0 = none)) 4 (PL s.2))) := by
  have hM := hK.1
  by_cases c : s.1 = 0
  · have h' := h
    rw [c] at h'
    obtain ⟨y, y1, y2, y3⟩ := h'.2.1
    rw [y3 rfl] at y2
    obtain ⟨F1, a1, a2, a3⟩ := m_stp (B := B) hK (k := 16) hs h hk rfl (by decide)
    have a1' : fX12_must 0 1 (mkM F A B) = some ((), mkM F1 A B) := a1
    have f13 := a2.1
    by_cases cz : (stp K 16 s).1 = 0
    · obtain ⟨_, _, k16, _⟩ := (stp_ok hK (k := 16) (s := s) (by decide) hs (by omega)).2 cz
      obtain ⟨n1, n2⟩ := hnm _ hs k16
      have f13' : F1 13 = 0 := by rw [f13, cz]; rfl
      have sm := (hw c).1.eq a3
      have wr : fX12_wrong 0 4 (nI s.2) (mkM F1 A B) = some ((), mkM (wrF F1 w.1 4 (PL s.2)) A B) := m_wrong (B := B) (A := A) (sp := w.2) (k := 4) (j := s.2) f13' sm.2.1 sm.1 (by decide) (fun q => ⟨sm.2.2 q, Or.inl ((hw c).2 q)⟩) (by omega) (hk _ hs).2.1 hpl
      have go := m_known_go (B := B) (A := A) (F := F1) hnb (by rw [a3 20 (by decide) (by decide) (by decide)]; exact h20) hg n2 (by omega) n1 wr nb 0 FU (by omega) (by unfold FU; omega)
      have z0 : (0 : Int32) ≤ 0 := by decide
      have run : fX12_known 0 (mkM F A B) = fX12_known_b21 FU 0 (nI s.2) (nI 0) (mkM F1 A B) := by
        unfold fX12_known
        simp -implicitDefEqProofs (disch := first | assumption | omega | decide | exact And.intro (by omega) (by omega)) only [mck, mg_0, mp_0, mr_1, mg_2, mp_2, mr_3, mg_4, mp_4, mr_5, mr_6, mr_7, mr_8, mr_9, mg_10, mp_10, mg_11, mp_11, mg_12, mp_12, mg_13, mp_13, mg_14, mp_14, mg_15, mp_15, mg_16, mp_16, mg_17, mp_17, mg_18, mp_18, mg_19, mp_19, mg_20, mp_20, mr_21, mr_22, mr_23, mr_24, mr_25, mr_26, mr_27, mr_28, mr_29, mr_30, mr_31, mr_32, mg_33, mp_33, mr_34, mr_35, mr_36, mr_37, mr_38, mg_39, mp_39, mr_40, mr_41, mr_42, mg_43, mp_43, mr_44, mr_45, mg_46, mp_46, mr_47, mr_48, mg_49, mp_49, mg_50, mp_50, mg_51, mp_51, mr_52, mr_53, mr_54, mg_55, mp_55, mr_56, mr_57, mg_58, mp_58, mg_59, mp_59, mg_60, mp_60, mr_61, mg_62, mp_62, mr_63, mr_64, mr_65, mr_66, mr_67, mr_68, ma_1, ms_1, ma_2, ms_2, ma_3, ms_3, ma_4, ms_4, ma_5, ms_5, ma_6, ms_6, ma_7, ms_7, ma_8, ms_8, ma_9, ms_9, ma_10, ms_10, ma_11, ms_11, ma_12, ms_12, ma_13, ms_13, ma_14, ms_14, ma_15, ms_15, ma_16, ms_16, ma_17, ms_17, ma_18, ms_18, ma_19, ms_19, ma_20, ms_20, ma_21, ms_21, ma_22, ms_22, ma_23, ms_23, ma_24, ms_24, ma_25, ms_25, ma_26, ms_26, ma_27, ms_27, ma_28, ms_28, ma_29, ms_29, ma_30, ms_30, ma_31, ms_31, ma_32, ms_32, ma_33, ms_33, ma_34, ms_34, ma_35, ms_35, ma_36, ms_36, ma_37, ms_37, ma_38, ms_38, ma_39, ms_39, ma_40, ms_40, ma_41, ms_41, ma_42, ms_42, ma_43, ms_43, if_true, if_false, Option.bind_some, cb_e, lt_e, nI_1, hs_nar2, nh4, upd_at, vau_at, ma_30_18, ms_30_18, ma_31_18, ms_31_18, ma_28_0, ms_28_0, ma_28_1, ms_28_1, ma_28_2, ms_28_2, ma_28_3, ms_28_3, ma_28_4, ms_28_4, ma_42_0, ms_42_0, ma_42_1, ms_42_1, ma_42_2, ms_42_2, ma_36_0, ms_36_0, y2, a1', f13', if_pos z0]
        rfl
      rw [go] at run
      by_cases cf : fndN g (NM s.2) nb 0 = none
      · rw [if_pos cf] at run
        exact ⟨_, _, run, a2.eq (wrF_ne _ _ _ 11 (by decide) (by decide)) (wrF_ne _ _ _ 13 (by decide) (by decide)) (wrF_ne _ _ _ 14 (by decide) (by decide)), fun k q => by rw [wrF_ne _ _ _ k (by omega) (by omega), a3 k (by omega) (by omega) (by omega)], by rw [wrF_ne _ _ _ 12 (by decide) (by decide), a3 12 (by decide) (by decide) (by decide)], fun q => absurd cz q, fun _ => ⟨rfl, by rw [decide_eq_true cf]; exact sm.wr (by decide)⟩⟩
      · rw [if_neg cf] at run
        exact ⟨_, _, run, a2, fun k q => a3 k (by omega) (by omega) (by omega), a3 12 (by decide) (by decide) (by decide), fun q => absurd cz q, fun _ => ⟨rfl, by rw [decide_eq_false cf, slp_f]; exact sm⟩⟩
    · have l2 := a2.2.2.2
      have hz : ¬ nI (stp K 16 s).1 ≤ 0 := nI_nle (by omega) (by omega)
      refine ⟨F1, -1, ?_, a2, fun k q => a3 k (by omega) (by omega) (by omega), a3 12 (by decide) (by decide) (by decide), fun _ => rfl, fun q => absurd q cz⟩
      unfold fX12_known
      simp -implicitDefEqProofs (disch := first | assumption | omega | decide | exact And.intro (by omega) (by omega)) only [mck, mg_0, mp_0, mr_1, mg_2, mp_2, mr_3, mg_4, mp_4, mr_5, mr_6, mr_7, mr_8, mr_9, mg_10, mp_10, mg_11, mp_11, mg_12, mp_12, mg_13, mp_13, mg_14, mp_14, mg_15, mp_15, mg_16, mp_16, mg_17, mp_17, mg_18, mp_18, mg_19, mp_19, mg_20, mp_20, mr_21, mr_22, mr_23, mr_24, mr_25, mr_26, mr_27, mr_28, mr_29, mr_30, mr_31, mr_32, mg_33, mp_33, mr_34, mr_35, mr_36, mr_37, mr_38, mg_39, mp_39, mr_40, mr_41, mr_42, mg_43, mp_43, mr_44, mr_45, mg_46, mp_46, mr_47, mr_48, mg_49, mp_49, mg_50, mp_50, mg_51, mp_51, mr_52, mr_53, mr_54, mg_55, mp_55, mr_56, mr_57, mg_58, mp_58, mg_59, mp_59, mg_60, mp_60, mr_61, mg_62, mp_62, mr_63, mr_64, mr_65, mr_66, mr_67, mr_68, ma_1, ms_1, ma_2, ms_2, ma_3, ms_3, ma_4, ms_4, ma_5, ms_5, ma_6, ms_6, ma_7, ms_7, ma_8, ms_8, ma_9, ms_9, ma_10, ms_10, ma_11, ms_11, ma_12, ms_12, ma_13, ms_13, ma_14, ms_14, ma_15, ms_15, ma_16, ms_16, ma_17, ms_17, ma_18, ms_18, ma_19, ms_19, ma_20, ms_20, ma_21, ms_21, ma_22, ms_22, ma_23, ms_23, ma_24, ms_24, ma_25, ms_25, ma_26, ms_26, ma_27, ms_27, ma_28, ms_28, ma_29, ms_29, ma_30, ms_30, ma_31, ms_31, ma_32, ms_32, ma_33, ms_33, ma_34, ms_34, ma_35, ms_35, ma_36, ms_36, ma_37, ms_37, ma_38, ms_38, ma_39, ms_39, ma_40, ms_40, ma_41, ms_41, ma_42, ms_42, ma_43, ms_43, if_true, if_false, Option.bind_some, cb_e, lt_e, nI_1, hs_nar2, nh4, upd_at, vau_at, ma_30_18, ms_30_18, ma_31_18, ms_31_18, ma_28_0, ms_28_0, ma_28_1, ms_28_1, ma_28_2, ms_28_2, ma_28_3, ms_28_3, ma_28_4, ms_28_4, ma_42_0, ms_42_0, ma_42_1, ms_42_1, ma_42_2, ms_42_2, ma_36_0, ms_36_0, y2, a1', f13, if_neg hz]
  · rw [stp_F c]
    exact ⟨F, -1, m_knownF h c, h, fun _ _ => rfl, rfl, fun _ => rfl, fun q => absurd q c⟩
theorem m_bnd2 {F : Nat → Int32} {A : Nat → Nat → Int32} {B : Nat → Nat → Int64} (hK : TkK M K V) {s w : Nat × Nat} {lo h : Nat} {hi : Int32} (hs : s.2 ≤ M) (hp : MPo F PL s.1 s.2) (hk : MTk A M K V PL) (hw : s.1 = 0 → SlM F w ∧ (¬ w.1 = 0 → w.2 < PL s.2)) (hh : s.1 = 0 → w.1 = 0 → hi = nI h ∧ h ≤ 9999) (hpl : PL s.2 ≤ 2000) (hlo : lo ≤ 9999) : ∃ F' x, fX12_bounded 0 (nI lo) hi (mkM F A B) = some (x, mkM F' A B) ∧ MPo F' PL (stp K 17 s).1 (stp K 17 s).2 ∧ (∀ k, ¬ (11 ≤ k ∧ k ≤ 16) → F' k = F k) ∧ F' 12 = F 12 ∧ ((stp K 17 s).1 = 0 → w.1 = 0 → x = nI (V s.2)) ∧ ((stp K 17 s).1 = 0 → SlM F' (slp w (decide (V s.2 < lo ∨ h < V s.2)) 5 (PL s.2))) := by
  by_cases c : s.1 = 0
  · by_cases c0 : w.1 = 0
    · obtain ⟨e1, e2⟩ := hh c c0
      subst e1
      obtain ⟨F', x, z1, z2, z3, z4, z5⟩ := m_bnd (B := B) (lo := lo) (hi := h) hK hs hp hk (hw c).1 (hw c).2 hpl hlo e2
      exact ⟨F', x, z1, z2, z3, z4, fun q _ => (z5 q).1, fun q => (z5 q).2⟩
    · have hp' := hp
      rw [c] at hp'
      obtain ⟨F', x, z1, z2, z3⟩ := m_boundedS (B := B) (lo := nI lo) (hi := hi) (sl := w.1) (sp := w.2) hK hs hp' hk (hw c).1.2.1 (hw c).1.1 c0 ⟨(hw c).1.2.2 c0, (hw c).2 c0⟩ hpl
      refine ⟨F', x, z1, ?_, fun k q => z3 k (by omega) (by omega) (by omega), z3 12 (by decide) (by decide) (by decide), fun _ q => absurd q c0, fun _ => ?_⟩
      · unfold stp
        rw [if_pos c]
        exact z2
      · rw [slp_n0 c0]
        exact (hw c).1.eq z3
  · rw [stp_F c]
    exact ⟨F, _, m_boundedF hp c _ _, hp, fun _ _ => rfl, rfl, fun q => absurd q c, fun q => absurd q c⟩
theorem c_chk2 {Fc Ac : Nat → Nat → Int32} {Bc : Nat → Nat → Int64} {w : Nat × Nat} {j v lo h : Nat} {hi : Int32} (hw : SlC Fc w) (hj : j < 402) (h5 : Ac 5 j = nI (PL j)) (hv : Bc 6 j = jN v) (h9 : v ≤ 9999) (hlo : lo ≤ 9999) (hh : w.1 = 0 → hi = nI h ∧ h ≤ 9999) : ∃ F', fX3_checkInt 37 (nI j) (nI lo) hi (mkC Fc Ac Bc r) = some ((), mkC F' Ac Bc r) ∧ SlC F' (slp w (decide (v < lo ∨ h < v)) 5 (PL j)) ∧ (∀ c, ¬ c = 37 → F' c = Fc c) ∧ ∀ x, ¬ x = 5 → ¬ x = 6 → F' 37 x = Fc 37 x := by
  by_cases c0 : w.1 = 0
  · obtain ⟨e1, e2⟩ := hh c0
    subst e1
    exact c_chk hw hj h5 hv h9 hlo e2
  · have e1 := c_intAt (F := Fc) (A := Ac) (r := r) hj hv h9
    have e2 : fX3_slipAt 37 5 (nI j) (mkC Fc Ac Bc r) = some ((), mkC Fc Ac Bc r) := by
      have := c_slip (A := Ac) (B := Bc) (r := r) (k := 5) hw.2.1 hw.1 hj
      unfold slF at this
      rw [if_neg c0] at this
      exact this
    refine ⟨Fc, ?_, by rw [slp_n0 c0]; exact hw, fun _ _ => rfl, fun _ _ _ => rfl⟩
    unfold fX3_checkInt fX3_checkInt_b18
    simp -implicitDefEqProofs (disch := first | assumption | omega | decide | exact And.intro (by omega) (by omega)) only [cck_0, cr0_0, cr0_1, cr0_2, cr0_3, cg0_4, cp0_4, cg0_5, cp0_5, cck_1, cg1_0, cp1_0, cr1_1, cr1_2, cr1_3, cg1_4, cp1_4, cg1_5, cp1_5, cr1_6, cr1_7, cck_2, cr2_0, cr2_1, cr2_2, cck_3, cr3_0, cr3_1, cg3_2, cp3_2, cg3_3, cp3_3, cg3_4, cp3_4, cg3_5, cp3_5, cg3_6, cp3_6, cg3_7, cp3_7, cg3_8, cp3_8, cck_4, cg4_0, cp4_0, cg4_1, cp4_1, cr4_2, cr4_3, cr4_4, cr4_5, cck_5, cg5_0, cp5_0, cr5_1, cr5_2, cr5_3, cck_6, cg6_0, cp6_0, cg6_1, cp6_1, cck_7, cg7_0, cp7_0, cg7_1, cp7_1, cr7_2, cr7_3, cr7_4, cr7_5, cr7_6, cr7_7, cr7_8, cck_8, cr8_0, cr8_1, cck_9, cr9_0, cr9_1, cr9_2, cr9_3, cg9_4, cp9_4, cck_10, cg10_0, cp10_0, cr10_1, cr10_2, cr10_3, cr10_4, cg10_5, cp10_5, cr10_6, cr10_7, cr10_8, cg10_9, cp10_9, cg10_10, cp10_10, cr10_11, cr10_12, cr10_13, cr10_14, cck_11, cr11_0, cg11_1, cp11_1, cr11_2, cr11_3, cr11_4, cr11_5, cr11_6, cr11_7, cr11_8, cr11_9, cr11_10, cr11_11, cr11_12, cr11_13, cr11_14, ca_30, cs_30, ca_31, cs_31, ca_32, cs_32, ca_33, cs_33, ca_34, cs_34, ca_35, cs_35, ca_36, cs_36, ca_37, cs_37, ca_38, cs_38, ca_39, cs_39, ca_40, cs_40, ca_41, cs_41, ca_42, cs_42, car_20, car_21, car_22, cq11_3, cq11_4, cq3_1, cq0_0, cq0_1, if_true, if_false, Option.bind_some, cb_e, lt_e, nI_1, hs_nar2, nh4, upd_at, vau_at, ca_42_0, cs_42_0, e1]
    by_cases n1 : nI v < nI lo
    · rw [if_pos n1]
      simp -implicitDefEqProofs (disch := first | assumption | omega | decide | exact And.intro (by omega) (by omega)) only [cck_0, cr0_0, cr0_1, cr0_2, cr0_3, cg0_4, cp0_4, cg0_5, cp0_5, cck_1, cg1_0, cp1_0, cr1_1, cr1_2, cr1_3, cg1_4, cp1_4, cg1_5, cp1_5, cr1_6, cr1_7, cck_2, cr2_0, cr2_1, cr2_2, cck_3, cr3_0, cr3_1, cg3_2, cp3_2, cg3_3, cp3_3, cg3_4, cp3_4, cg3_5, cp3_5, cg3_6, cp3_6, cg3_7, cp3_7, cg3_8, cp3_8, cck_4, cg4_0, cp4_0, cg4_1, cp4_1, cr4_2, cr4_3, cr4_4, cr4_5, cck_5, cg5_0, cp5_0, cr5_1, cr5_2, cr5_3, cck_6, cg6_0, cp6_0, cg6_1, cp6_1, cck_7, cg7_0, cp7_0, cg7_1, cp7_1, cr7_2, cr7_3, cr7_4, cr7_5, cr7_6, cr7_7, cr7_8, cck_8, cr8_0, cr8_1, cck_9, cr9_0, cr9_1, cr9_2, cr9_3, cg9_4, cp9_4, cck_10, cg10_0, cp10_0, cr10_1, cr10_2, cr10_3, cr10_4, cg10_5, cp10_5, cr10_6, cr10_7, cr10_8, cg10_9, cp10_9, cg10_10, cp10_10, cr10_11, cr10_12, cr10_13, cr10_14, cck_11, cr11_0, cg11_1, cp11_1, cr11_2, cr11_3, cr11_4, cr11_5, cr11_6, cr11_7, cr11_8, cr11_9, cr11_10, cr11_11, cr11_12, cr11_13, cr11_14, ca_30, cs_30, ca_31, cs_31, ca_32, cs_32, ca_33, cs_33, ca_34, cs_34, ca_35, cs_35, ca_36, cs_36, ca_37, cs_37, ca_38, cs_38, ca_39, cs_39, ca_40, cs_40, ca_41, cs_41, ca_42, cs_42, car_20, car_21, car_22, cq11_3, cq11_4, cq3_1, cq0_0, cq0_1, if_true, if_false, Option.bind_some, cb_e, lt_e, nI_1, hs_nar2, nh4, upd_at, vau_at, ca_42_0, cs_42_0, e2]
    · rw [if_neg n1]
      by_cases n2 : nI v ≤ hi
      · rw [if_pos n2]
      · rw [if_neg n2]
        simp -implicitDefEqProofs (disch := first | assumption | omega | decide | exact And.intro (by omega) (by omega)) only [cck_0, cr0_0, cr0_1, cr0_2, cr0_3, cg0_4, cp0_4, cg0_5, cp0_5, cck_1, cg1_0, cp1_0, cr1_1, cr1_2, cr1_3, cg1_4, cp1_4, cg1_5, cp1_5, cr1_6, cr1_7, cck_2, cr2_0, cr2_1, cr2_2, cck_3, cr3_0, cr3_1, cg3_2, cp3_2, cg3_3, cp3_3, cg3_4, cp3_4, cg3_5, cp3_5, cg3_6, cp3_6, cg3_7, cp3_7, cg3_8, cp3_8, cck_4, cg4_0, cp4_0, cg4_1, cp4_1, cr4_2, cr4_3, cr4_4, cr4_5, cck_5, cg5_0, cp5_0, cr5_1, cr5_2, cr5_3, cck_6, cg6_0, cp6_0, cg6_1, cp6_1, cck_7, cg7_0, cp7_0, cg7_1, cp7_1, cr7_2, cr7_3, cr7_4, cr7_5, cr7_6, cr7_7, cr7_8, cck_8, cr8_0, cr8_1, cck_9, cr9_0, cr9_1, cr9_2, cr9_3, cg9_4, cp9_4, cck_10, cg10_0, cp10_0, cr10_1, cr10_2, cr10_3, cr10_4, cg10_5, cp10_5, cr10_6, cr10_7, cr10_8, cg10_9, cp10_9, cg10_10, cp10_10, cr10_11, cr10_12, cr10_13, cr10_14, cck_11, cr11_0, cg11_1, cp11_1, cr11_2, cr11_3, cr11_4, cr11_5, cr11_6, cr11_7, cr11_8, cr11_9, cr11_10, cr11_11, cr11_12, cr11_13, cr11_14, ca_30, cs_30, ca_31, cs_31, ca_32, cs_32, ca_33, cs_33, ca_34, cs_34, ca_35, cs_35, ca_36, cs_36, ca_37, cs_37, ca_38, cs_38, ca_39, cs_39, ca_40, cs_40, ca_41, cs_41, ca_42, cs_42, car_20, car_21, car_22, cq11_3, cq11_4, cq3_1, cq0_0, cq0_1, if_true, if_false, Option.bind_some, cb_e, lt_e, nI_1, hs_nar2, nh4, upd_at, vau_at, ca_42_0, cs_42_0, e2]
theorem c_knw {Fc Ac : Nat → Nat → Int32} {Bc : Nat → Nat → Int64} {w : Nat × Nat} {j nc : Nat} {g : Nat → List Nat} {u : List Nat} (hd : d = 7 ∨ d = 22) (hr : r 2 = d) (hw : SlC Fc w) (hj : j < 402) (h5 : Ac 5 j = nI (PL j)) (hb : Bc 6 j = jN (cN 32 u)) (hu : Nam u) (h0 : Fc d 0 = nI nc) (hnc : nc ≤ 6) (hg : ∀ i, i < nc → Bc (d + 1) i = jN (cN 32 (g i)) ∧ Nam (g i)) : ∃ F', fX3_knownBook 37 (nI j) (mkC Fc Ac Bc r) = some (rF (-1) (fndN g u nc 0), mkC F' Ac Bc r) ∧ SlC F' (slp w (decide (fndN g u nc 0 = none)) 4 (PL j)) ∧ (∀ c, ¬ c = 37 → F' c = Fc c) ∧ ∀ x, ¬ x = 5 → ¬ x = 6 → F' 37 x = Fc 37 x := by
  have hr2 : gR (mkC Fc Ac Bc r) 3 37 1 = some d := by rw [cr3_1 rfl, hr]
  have nm := c_named (A := Ac) (r := r) (F := Fc) hd hnc h0 hg hu
  by_cases cf : fndN g u nc 0 = none
  · rw [cf] at nm
    have nm' : fX10_bookNamed d (jN (cN 32 u)) (mkC Fc Ac Bc r) = some (-1, mkC Fc Ac Bc r) := nm
    obtain ⟨F6, s1, s2, s3, s4⟩ := c_slN (A := Ac) (PL := PL) (B := Bc) (r := r) (k := 4) hw (by decide) hj h5
    have s1' : fX3_slipAt 37 4 (nI j) (mkC Fc Ac Bc r) = some ((), mkC F6 Ac Bc r) := s1
    refine ⟨F6, ?_, by rw [decide_eq_true cf]; exact s2, s3, s4⟩
    rw [cf]
    unfold fX3_knownBook
    simp -implicitDefEqProofs (disch := first | assumption | omega | decide | exact And.intro (by omega) (by omega)) only [cck_0, cr0_0, cr0_1, cr0_2, cr0_3, cg0_4, cp0_4, cg0_5, cp0_5, cck_1, cg1_0, cp1_0, cr1_1, cr1_2, cr1_3, cg1_4, cp1_4, cg1_5, cp1_5, cr1_6, cr1_7, cck_2, cr2_0, cr2_1, cr2_2, cck_3, cr3_0, cr3_1, cg3_2, cp3_2, cg3_3, cp3_3, cg3_4, cp3_4, cg3_5, cp3_5, cg3_6, cp3_6, cg3_7, cp3_7, cg3_8, cp3_8, cck_4, cg4_0, cp4_0, cg4_1, cp4_1, cr4_2, cr4_3, cr4_4, cr4_5, cck_5, cg5_0, cp5_0, cr5_1, cr5_2, cr5_3, cck_6, cg6_0, cp6_0, cg6_1, cp6_1, cck_7, cg7_0, cp7_0, cg7_1, cp7_1, cr7_2, cr7_3, cr7_4, cr7_5, cr7_6, cr7_7, cr7_8, cck_8, cr8_0, cr8_1, cck_9, cr9_0, cr9_1, cr9_2, cr9_3, cg9_4, cp9_4, cck_10, cg10_0, cp10_0, cr10_1, cr10_2, cr10_3, cr10_4, cg10_5, cp10_5, cr10_6, cr10_7, cr10_8, cg10_9, cp10_9, cg10_10, cp10_10, cr10_11, cr10_12, cr10_13, cr10_14, cck_11, cr11_0, cg11_1, cp11_1, cr11_2, cr11_3, cr11_4, cr11_5, cr11_6, cr11_7, cr11_8, cr11_9, cr11_10, cr11_11, cr11_12, cr11_13, cr11_14, ca_30, cs_30, ca_31, cs_31, ca_32, cs_32, ca_33, cs_33, ca_34, cs_34, ca_35, cs_35, ca_36, cs_36, ca_37, cs_37, ca_38, cs_38, ca_39, cs_39, ca_40, cs_40, ca_41, cs_41, ca_42, cs_42, car_20, car_21, car_22, cq11_3, cq11_4, cq3_1, cq0_0, cq0_1, if_true, if_false, Option.bind_some, cb_e, lt_e, nI_1, hs_nar2, nh4, upd_at, vau_at, ca_42_0, cs_42_0, hr2, hb, nm', s1']
    rfl
  · obtain ⟨i, hi⟩ : ∃ i, fndN g u nc 0 = some i := by
      cases hq : fndN g u nc 0 with
      | none => exact absurd hq cf
      | some i => exact ⟨i, rfl⟩
    have ib := fndN_lt _ _ _ hi
    have m1 : ¬ nI i = (-1 : Int32) := nI_ne1 (by omega)
    rw [hi] at nm
    have nm' : fX10_bookNamed d (jN (cN 32 u)) (mkC Fc Ac Bc r) = some (nI i, mkC Fc Ac Bc r) := nm
    refine ⟨Fc, ?_, by rw [decide_eq_false cf, slp_f]; exact hw, fun _ _ => rfl, fun _ _ _ => rfl⟩
    rw [hi]
    unfold fX3_knownBook
    simp -implicitDefEqProofs (disch := first | assumption | omega | decide | exact And.intro (by omega) (by omega)) only [cck_0, cr0_0, cr0_1, cr0_2, cr0_3, cg0_4, cp0_4, cg0_5, cp0_5, cck_1, cg1_0, cp1_0, cr1_1, cr1_2, cr1_3, cg1_4, cp1_4, cg1_5, cp1_5, cr1_6, cr1_7, cck_2, cr2_0, cr2_1, cr2_2, cck_3, cr3_0, cr3_1, cg3_2, cp3_2, cg3_3, cp3_3, cg3_4, cp3_4, cg3_5, cp3_5, cg3_6, cp3_6, cg3_7, cp3_7, cg3_8, cp3_8, cck_4, cg4_0, cp4_0, cg4_1, cp4_1, cr4_2, cr4_3, cr4_4, cr4_5, cck_5, cg5_0, cp5_0, cr5_1, cr5_2, cr5_3, cck_6, cg6_0, cp6_0, cg6_1, cp6_1, cck_7, cg7_0, cp7_0, cg7_1, cp7_1, cr7_2, cr7_3, cr7_4, cr7_5, cr7_6, cr7_7, cr7_8, cck_8, cr8_0, cr8_1, cck_9, cr9_0, cr9_1, cr9_2, cr9_3, cg9_4, cp9_4, cck_10, cg10_0, cp10_0, cr10_1, cr10_2, cr10_3, cr10_4, cg10_5, cp10_5, cr10_6, cr10_7, cr10_8, cg10_9, cp10_9, cg10_10, cp10_10, cr10_11, cr10_12, cr10_13, cr10_14, cck_11, cr11_0, cg11_1, cp11_1, cr11_2, cr11_3, cr11_4, cr11_5, cr11_6, cr11_7, cr11_8, cr11_9, cr11_10, cr11_11, cr11_12, cr11_13, cr11_14, ca_30, cs_30, ca_31, cs_31, ca_32, cs_32, ca_33, cs_33, ca_34, cs_34, ca_35, cs_35, ca_36, cs_36, ca_37, cs_37, ca_38, cs_38, ca_39, cs_39, ca_40, cs_40, ca_41, cs_41, ca_42, cs_42, car_20, car_21, car_22, cq11_3, cq11_4, cq3_1, cq0_0, cq0_1, if_true, if_false, Option.bind_some, cb_e, lt_e, nI_1, hs_nar2, nh4, upd_at, vau_at, ca_42_0, cs_42_0, hr2, hb, nm', if_neg m1]
    rfl
/-- whatever the name -/
theorem c_namedA {Fc Ac : Nat → Nat → Int32} {Bc : Nat → Nat → Int64} {v : Int64} {n : Nat} (hd : d = 7 ∨ d = 22) (hn : n ≤ 6) (h0 : Fc d 0 = nI n) : ∀ m i fuel, i + m = n → m < fuel → ∃ x, fX10_bookNamed_b2 fuel d v (nI i) (mkC Fc Ac Bc r) = some (x, mkC Fc Ac Bc r)
  | 0, i, fuel, e, hf => by
    obtain ⟨fuel, rfl⟩ : ∃ q, fuel = q + 1 := ⟨fuel - 1, by omega⟩
    have n1 : nI n ≤ nI i := nI_le (by omega) (by omega)
    have kd : c_kd d = 10 := by rcases hd with h | h <;> subst h <;> rfl
    refine ⟨-1, ?_⟩
    rw [fX10_bookNamed_b2]
    simp -implicitDefEqProofs (disch := first | assumption | omega | decide | exact And.intro (by omega) (by omega)) only [cck_0, cr0_0, cr0_1, cr0_2, cr0_3, cg0_4, cp0_4, cg0_5, cp0_5, cck_1, cg1_0, cp1_0, cr1_1, cr1_2, cr1_3, cg1_4, cp1_4, cg1_5, cp1_5, cr1_6, cr1_7, cck_2, cr2_0, cr2_1, cr2_2, cck_3, cr3_0, cr3_1, cg3_2, cp3_2, cg3_3, cp3_3, cg3_4, cp3_4, cg3_5, cp3_5, cg3_6, cp3_6, cg3_7, cp3_7, cg3_8, cp3_8, cck_4, cg4_0, cp4_0, cg4_1, cp4_1, cr4_2, cr4_3, cr4_4, cr4_5, cck_5, cg5_0, cp5_0, cr5_1, cr5_2, cr5_3, cck_6, cg6_0, cp6_0, cg6_1, cp6_1, cck_7, cg7_0, cp7_0, cg7_1, cp7_1, cr7_2, cr7_3, cr7_4, cr7_5, cr7_6, cr7_7, cr7_8, cck_8, cr8_0, cr8_1, cck_9, cr9_0, cr9_1, cr9_2, cr9_3, cg9_4, cp9_4, cck_10, cg10_0, cp10_0, cr10_1, cr10_2, cr10_3, cr10_4, cg10_5, cp10_5, cr10_6, cr10_7, cr10_8, cg10_9, cp10_9, cg10_10, cp10_10, cr10_11, cr10_12, cr10_13, cr10_14, cck_11, cr11_0, cg11_1, cp11_1, cr11_2, cr11_3, cr11_4, cr11_5, cr11_6, cr11_7, cr11_8, cr11_9, cr11_10, cr11_11, cr11_12, cr11_13, cr11_14, ca_30, cs_30, ca_31, cs_31, ca_32, cs_32, ca_33, cs_33, ca_34, cs_34, ca_35, cs_35, ca_36, cs_36, ca_37, cs_37, ca_38, cs_38, ca_39, cs_39, ca_40, cs_40, ca_41, cs_41, ca_42, cs_42, car_20, car_21, car_22, cq11_3, cq11_4, cq3_1, cq0_0, cq0_1, if_true, if_false, Option.bind_some, cb_e, lt_e, nI_1, hs_nar2, nh4, upd_at, vau_at, ca_42_0, cs_42_0, h0, if_pos n1]
  | m + 1, i, fuel, e, hf => by
    obtain ⟨fuel, rfl⟩ : ∃ q, fuel = q + 1 := ⟨fuel - 1, by omega⟩
    have n1 : ¬ nI n ≤ nI i := fun q => by
      have := (nI_leI (by omega) (by omega)).1 q
      omega
    have kd : c_kd d = 10 := by rcases hd with h | h <;> subst h <;> rfl
    have kd1 : c_kd (d + 1) = 34 := by rcases hd with h | h <;> subst h <;> rfl
    have hi6 : i < 6 := by omega
    obtain ⟨x, ih⟩ := c_namedA (v := v) (Ac := Ac) (Bc := Bc) hd hn h0 m (i + 1) fuel (by omega) (by omega)
    rw [fX10_bookNamed_b2]
    simp -implicitDefEqProofs (disch := first | assumption | omega | decide | exact And.intro (by omega) (by omega)) only [cck_0, cr0_0, cr0_1, cr0_2, cr0_3, cg0_4, cp0_4, cg0_5, cp0_5, cck_1, cg1_0, cp1_0, cr1_1, cr1_2, cr1_3, cg1_4, cp1_4, cg1_5, cp1_5, cr1_6, cr1_7, cck_2, cr2_0, cr2_1, cr2_2, cck_3, cr3_0, cr3_1, cg3_2, cp3_2, cg3_3, cp3_3, cg3_4, cp3_4, cg3_5, cp3_5, cg3_6, cp3_6, cg3_7, cp3_7, cg3_8, cp3_8, cck_4, cg4_0, cp4_0, cg4_1, cp4_1, cr4_2, cr4_3, cr4_4, cr4_5, cck_5, cg5_0, cp5_0, cr5_1, cr5_2, cr5_3, cck_6, cg6_0, cp6_0, cg6_1, cp6_1, cck_7, cg7_0, cp7_0, cg7_1, cp7_1, cr7_2, cr7_3, cr7_4, cr7_5, cr7_6, cr7_7, cr7_8, cck_8, cr8_0, cr8_1, cck_9, cr9_0, cr9_1, cr9_2, cr9_3, cg9_4, cp9_4, cck_10, cg10_0, cp10_0, cr10_1, cr10_2, cr10_3, cr10_4, cg10_5, cp10_5, cr10_6, cr10_7, cr10_8, cg10_9, cp10_9, cg10_10, cp10_10, cr10_11, cr10_12, cr10_13, cr10_14, cck_11, cr11_0, cg11_1, cp11_1, cr11_2, cr11_3, cr11_4, cr11_5, cr11_6, cr11_7, cr11_8, cr11_9, cr11_10, cr11_11, cr11_12, cr11_13, cr11_14, ca_30, cs_30, ca_31, cs_31, ca_32, cs_32, ca_33, cs_33, ca_34, cs_34, ca_35, cs_35, ca_36, cs_36, ca_37, cs_37, ca_38, cs_38, ca_39, cs_39, ca_40, cs_40, ca_41, cs_41, ca_42, cs_42, car_20, car_21, car_22, cq11_3, cq11_4, cq3_1, cq0_0, cq0_1, if_true, if_false, Option.bind_some, cb_e, lt_e, nI_1, hs_nar2, nh4, upd_at, vau_at, ca_42_0, cs_42_0, h0, if_neg n1, lg_cmp_eq]
    by_cases c : Bc (d + 1) i = v
    · rw [if_pos c]
      exact ⟨_, rfl⟩
    · rw [if_neg c]
      exact ⟨x, ih⟩
theorem c_knwA {Fc Ac : Nat → Nat → Int32} {Bc : Nat → Nat → Int64} {w : Nat × Nat} {j nc : Nat} (hd : d = 7 ∨ d = 22) (hr : r 2 = d) (hw : SlC Fc w) (hj : j < 402) (h0 : Fc d 0 = nI nc) (hnc : nc ≤ 6) : ∃ F' x, fX3_knownBook 37 (nI j) (mkC Fc Ac Bc r) = some (x, mkC F' Ac Bc r) ∧ (∀ c, ¬ c = 37 → F' c = Fc c) ∧ ∀ x, ¬ x = 5 → ¬ x = 6 → F' 37 x = Fc 37 x := by
  have hr2 : gR (mkC Fc Ac Bc r) 3 37 1 = some d := by rw [cr3_1 rfl, hr]
  have kd : c_kd d = 10 := by rcases hd with h | h <;> subst h <;> rfl
  obtain ⟨x, go⟩ := c_namedA (Ac := Ac) (Bc := Bc) (r := r) (v := Bc 6 j) hd hnc h0 nc 0 FU (by omega) (by unfold FU; omega)
  have nm : fX10_bookNamed d (Bc 6 j) (mkC Fc Ac Bc r) = some (x, mkC Fc Ac Bc r) := by
    unfold fX10_bookNamed
    simp -implicitDefEqProofs (disch := first | assumption | omega | decide | exact And.intro (by omega) (by omega)) only [cck_0, cr0_0, cr0_1, cr0_2, cr0_3, cg0_4, cp0_4, cg0_5, cp0_5, cck_1, cg1_0, cp1_0, cr1_1, cr1_2, cr1_3, cg1_4, cp1_4, cg1_5, cp1_5, cr1_6, cr1_7, cck_2, cr2_0, cr2_1, cr2_2, cck_3, cr3_0, cr3_1, cg3_2, cp3_2, cg3_3, cp3_3, cg3_4, cp3_4, cg3_5, cp3_5, cg3_6, cp3_6, cg3_7, cp3_7, cg3_8, cp3_8, cck_4, cg4_0, cp4_0, cg4_1, cp4_1, cr4_2, cr4_3, cr4_4, cr4_5, cck_5, cg5_0, cp5_0, cr5_1, cr5_2, cr5_3, cck_6, cg6_0, cp6_0, cg6_1, cp6_1, cck_7, cg7_0, cp7_0, cg7_1, cp7_1, cr7_2, cr7_3, cr7_4, cr7_5, cr7_6, cr7_7, cr7_8, cck_8, cr8_0, cr8_1, cck_9, cr9_0, cr9_1, cr9_2, cr9_3, cg9_4, cp9_4, cck_10, cg10_0, cp10_0, cr10_1, cr10_2, cr10_3, cr10_4, cg10_5, cp10_5, cr10_6, cr10_7, cr10_8, cg10_9, cp10_9, cg10_10, cp10_10, cr10_11, cr10_12, cr10_13, cr10_14, cck_11, cr11_0, cg11_1, cp11_1, cr11_2, cr11_3, cr11_4, cr11_5, cr11_6, cr11_7, cr11_8, cr11_9, cr11_10, cr11_11, cr11_12, cr11_13, cr11_14, ca_30, cs_30, ca_31, cs_31, ca_32, cs_32, ca_33, cs_33, ca_34, cs_34, ca_35, cs_35, ca_36, cs_36, ca_37, cs_37, ca_38, cs_38, ca_39, cs_39, ca_40, cs_40, ca_41, cs_41, ca_42, cs_42, car_20, car_21, car_22, cq11_3, cq11_4, cq3_1, cq0_0, cq0_1, if_true, if_false, Option.bind_some, cb_e, lt_e, nI_1, hs_nar2, nh4, upd_at, vau_at, ca_42_0, cs_42_0]
    exact go
  have s1 : fX3_slipAt 37 4 (nI j) (mkC Fc Ac Bc r) = some ((), mkC (slF Fc Ac w.1 4 j) Ac Bc r) := c_slip hw.2.1 hw.1 hj
  by_cases c : x = -1
  · refine ⟨slF Fc Ac w.1 4 j, x, ?_, (slF_ne _ _ _).1, (slF_ne _ _ _).2⟩
    unfold fX3_knownBook
    simp -implicitDefEqProofs (disch := first | assumption | omega | decide | exact And.intro (by omega) (by omega)) only [cck_0, cr0_0, cr0_1, cr0_2, cr0_3, cg0_4, cp0_4, cg0_5, cp0_5, cck_1, cg1_0, cp1_0, cr1_1, cr1_2, cr1_3, cg1_4, cp1_4, cg1_5, cp1_5, cr1_6, cr1_7, cck_2, cr2_0, cr2_1, cr2_2, cck_3, cr3_0, cr3_1, cg3_2, cp3_2, cg3_3, cp3_3, cg3_4, cp3_4, cg3_5, cp3_5, cg3_6, cp3_6, cg3_7, cp3_7, cg3_8, cp3_8, cck_4, cg4_0, cp4_0, cg4_1, cp4_1, cr4_2, cr4_3, cr4_4, cr4_5, cck_5, cg5_0, cp5_0, cr5_1, cr5_2, cr5_3, cck_6, cg6_0, cp6_0, cg6_1, cp6_1, cck_7, cg7_0, cp7_0, cg7_1, cp7_1, cr7_2, cr7_3, cr7_4, cr7_5, cr7_6, cr7_7, cr7_8, cck_8, cr8_0, cr8_1, cck_9, cr9_0, cr9_1, cr9_2, cr9_3, cg9_4, cp9_4, cck_10, cg10_0, cp10_0, cr10_1, cr10_2, cr10_3, cr10_4, cg10_5, cp10_5, cr10_6, cr10_7, cr10_8, cg10_9, cp10_9, cg10_10, cp10_10, cr10_11, cr10_12, cr10_13, cr10_14, cck_11, cr11_0, cg11_1, cp11_1, cr11_2, cr11_3, cr11_4, cr11_5, cr11_6, cr11_7, cr11_8, cr11_9, cr11_10, cr11_11, cr11_12, cr11_13, cr11_14, ca_30, cs_30, ca_31, cs_31, ca_32, cs_32, ca_33, cs_33, ca_34, cs_34, ca_35, cs_35, ca_36, cs_36, ca_37, cs_37, ca_38, cs_38, ca_39, cs_39, ca_40, cs_40, ca_41, cs_41, ca_42, cs_42, car_20, car_21, car_22, cq11_3, cq11_4, cq3_1, cq0_0, cq0_1, if_true, if_false, Option.bind_some, cb_e, lt_e, nI_1, hs_nar2, nh4, upd_at, vau_at, ca_42_0, cs_42_0, hr2, nm, if_pos c, s1]
  · refine ⟨Fc, x, ?_, fun _ _ => rfl, fun _ _ _ => rfl⟩
    unfold fX3_knownBook
    simp -implicitDefEqProofs (disch := first | assumption | omega | decide | exact And.intro (by omega) (by omega)) only [cck_0, cr0_0, cr0_1, cr0_2, cr0_3, cg0_4, cp0_4, cg0_5, cp0_5, cck_1, cg1_0, cp1_0, cr1_1, cr1_2, cr1_3, cg1_4, cp1_4, cg1_5, cp1_5, cr1_6, cr1_7, cck_2, cr2_0, cr2_1, cr2_2, cck_3, cr3_0, cr3_1, cg3_2, cp3_2, cg3_3, cp3_3, cg3_4, cp3_4, cg3_5, cp3_5, cg3_6, cp3_6, cg3_7, cp3_7, cg3_8, cp3_8, cck_4, cg4_0, cp4_0, cg4_1, cp4_1, cr4_2, cr4_3, cr4_4, cr4_5, cck_5, cg5_0, cp5_0, cr5_1, cr5_2, cr5_3, cck_6, cg6_0, cp6_0, cg6_1, cp6_1, cck_7, cg7_0, cp7_0, cg7_1, cp7_1, cr7_2, cr7_3, cr7_4, cr7_5, cr7_6, cr7_7, cr7_8, cck_8, cr8_0, cr8_1, cck_9, cr9_0, cr9_1, cr9_2, cr9_3, cg9_4, cp9_4, cck_10, cg10_0, cp10_0, cr10_1, cr10_2, cr10_3, cr10_4, cg10_5, cp10_5, cr10_6, cr10_7, cr10_8, cg10_9, cp10_9, cg10_10, cp10_10, cr10_11, cr10_12, cr10_13, cr10_14, cck_11, cr11_0, cg11_1, cp11_1, cr11_2, cr11_3, cr11_4, cr11_5, cr11_6, cr11_7, cr11_8, cr11_9, cr11_10, cr11_11, cr11_12, cr11_13, cr11_14, ca_30, cs_30, ca_31, cs_31, ca_32, cs_32, ca_33, cs_33, ca_34, cs_34, ca_35, cs_35, ca_36, cs_36, ca_37, cs_37, ca_38, cs_38, ca_39, cs_39, ca_40, cs_40, ca_41, cs_41, ca_42, cs_42, car_20, car_21, car_22, cq11_3, cq11_4, cq3_1, cq0_0, cq0_1, if_true, if_false, Option.bind_some, cb_e, lt_e, nI_1, hs_nar2, nh4, upd_at, vau_at, ca_42_0, cs_42_0, hr2, nm, if_neg c]
end N93
