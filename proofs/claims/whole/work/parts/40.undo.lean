/-! ===== undo, hold, restore ===== -/
/-- the class's pile goes back -/
theorem c_back {Fc Ac : Nat → Nat → Int32} (Bc : Nat → Nat → Int64) (rc : Nat → Nat) {nb u w : Nat} {P Q : AP} (cz : ¬ nI u = 0) (u4 : Fc 49 0 = nI u) (u5 : Fc 49 1 = nI w) (u2 : w < 50) (u9 : CPile Fc Ac 38 P) (h6 : P.1 ≤ 6) (gQ : GoodP nb Q) (hT6 : nb ≤ 6) (hring : Undone (Ac 50 w) (Ac 51 w) (Ac 52 w) (Ac 53 w) P Q) : ∃ Fc1 Ac1, fX4_takeBack 49 38 (mkC Fc Ac Bc rc) = fX4_takeBack_b108 49 (mkC Fc1 Ac1 Bc rc) ∧ CPile Fc1 Ac1 38 Q ∧ OnlyP 38 Fc Fc1 Ac Ac1 := by
  have gQ6 := gQ.1
  unfold fX4_takeBack
  simp -implicitDefEqProofs (disch := first | assumption | omega | decide | exact And.intro (by omega) (by omega)) only [cck_0, cr0_0, cr0_1, cr0_2, cr0_3, cg0_4, cp0_4, cg0_5, cp0_5, cck_1, cg1_0, cp1_0, cr1_1, cr1_2, cr1_3, cg1_4, cp1_4, cg1_5, cp1_5, cr1_6, cr1_7, cck_2, cr2_0, cr2_1, cr2_2, cck_3, cr3_0, cr3_1, cg3_2, cp3_2, cg3_3, cp3_3, cg3_4, cp3_4, cg3_5, cp3_5, cg3_6, cp3_6, cg3_7, cp3_7, cg3_8, cp3_8, cck_4, cg4_0, cp4_0, cg4_1, cp4_1, cr4_2, cr4_3, cr4_4, cr4_5, cck_5, cg5_0, cp5_0, cr5_1, cr5_2, cr5_3, cck_6, cg6_0, cp6_0, cg6_1, cp6_1, cck_7, cg7_0, cp7_0, cg7_1, cp7_1, cr7_2, cr7_3, cr7_4, cr7_5, cr7_6, cr7_7, cr7_8, cck_8, cr8_0, cr8_1, cck_9, cr9_0, cr9_1, cr9_2, cr9_3, cg9_4, cp9_4, cck_10, cg10_0, cp10_0, cr10_1, cr10_2, cr10_3, cr10_4, cg10_5, cp10_5, cr10_6, cr10_7, cr10_8, cg10_9, cp10_9, cg10_10, cp10_10, cr10_11, cr10_12, cr10_13, cr10_14, cck_11, cr11_0, cg11_1, cp11_1, cr11_2, cr11_3, cr11_4, cr11_5, cr11_6, cr11_7, cr11_8, cr11_9, cr11_10, cr11_11, cr11_12, cr11_13, cr11_14, ca_30, cs_30, ca_31, cs_31, ca_32, cs_32, ca_33, cs_33, ca_34, cs_34, ca_35, cs_35, ca_36, cs_36, ca_37, cs_37, ca_38, cs_38, ca_39, cs_39, ca_40, cs_40, ca_41, cs_41, ca_42, cs_42, car_20, car_21, car_22, cq11_3, cq11_4, cq3_1, cq0_0, cq0_1, if_true, if_false, Option.bind_some, cb, lt, nI_1, hs_nar2, nh4, upd_at, vau_at, ca_42_0, cs_42_0, u4, if_neg cz, u5]
  rcases hring with ⟨k1, k2, k3⟩ | ⟨k1, k2, k3, k4, k5, k6⟩ | ⟨k1, k2, lev, d, k3, k4, k5, k6, k7, k8⟩
  · obtain ⟨Fc1, z1, z2, z3⟩ := c_drop Bc rc (PA_of (Or.inl rfl)) u9 (by omega) h6
    rw [k1, if_pos rfl, z1]
    simp only [Option.bind_some]
    refine ⟨Fc1, Ac, rfl, z2.ap ⟨by show P.1 - 1 = _; omega, fun i hi => k3 i ?_⟩, z3⟩
    have : i < P.1 - 1 := hi
    omega
  · have hb := gQ.2.1 P.1 (by omega)
    obtain ⟨Fc1, Ac1, z1, z2, z3⟩ := c_put Bc rc (PA_of (Or.inl rfl)) u9 (by omega) (b := Q.2.1 P.1) (by omega) (Q.2.2.1 P.1) (gQ.2.2.2.2 P.1 (by omega))
    rw [k1, if_neg (by decide), if_pos rfl, k4, k5, k6, z1]
    simp only [Option.bind_some]
    refine ⟨Fc1, Ac1, rfl, z2.ap ⟨by show P.1 + 1 = _; omega, fun i hi => ?_⟩, z3⟩
    have hi2 : i < P.1 + 1 := hi
    show (if i = P.1 then Q.2.1 P.1 else pB P i) = _ ∧ (if i = P.1 then Q.2.2.1 P.1 else pP P i) = _ ∧ (if i = P.1 then Q.2.2.2 P.1 else pG P i) = _
    by_cases ci : i = P.1
    · rw [if_pos ci, if_pos ci, if_pos ci, ci]
      exact ⟨rfl, rfl, rfl⟩
    · rw [if_neg ci, if_neg ci, if_neg ci]
      exact k3 i (by omega)
  · obtain ⟨Ac1, z1, z2, z3⟩ := c_shift (F := Fc) Bc rc (PA_of (Or.inl rfl)) h6 (lev := lev) (by omega) (-d) u9
    rw [k1, if_neg (by decide), if_neg (by decide), k3, k4, iI_neg, z1]
    simp only [Option.bind_some]
    refine ⟨Fc, Ac1, rfl, z2.ap ⟨k2, fun i hi => ?_⟩, z3⟩
    have hi2 : i < P.1 := hi
    obtain ⟨y1, y2, y3⟩ := k8 i hi2
    refine ⟨y1, ?_, y3⟩
    show (if lev ≤ i then pP P i + -d else pP P i) = _
    simp only [pP]
    rw [y2]
    split <;> omega
theorem ag_undo : Ag_ Rel fX11_undo fX12_undo := by
  intro σc σm hR
  obtain ⟨F, A, B, Fc, Ac, Bc, rc, t, lv, T, u, w, ps, n7, sp, rfl, rfl, hT, hC⟩ := id hR
  obtain ⟨u1, u2, u3, u4, u5, u6, u7, u8, u9, u10⟩ := hC.c3
  have h6 := hC.goodP.1
  have hs := u9.1
  unfold fX11_undo fX12_undo
  by_cases c : u = 0
  · have cz : nI u = 0 := by rw [c]; rfl
    refine ⟨0, mkC Fc Ac Bc rc, mkM F A B, ?_, ?_, hR⟩
    · unfold fX4_takeBack
      simp -implicitDefEqProofs (disch := first | assumption | omega | decide | exact And.intro (by omega) (by omega)) only [cck_0, cr0_0, cr0_1, cr0_2, cr0_3, cg0_4, cp0_4, cg0_5, cp0_5, cck_1, cg1_0, cp1_0, cr1_1, cr1_2, cr1_3, cg1_4, cp1_4, cg1_5, cp1_5, cr1_6, cr1_7, cck_2, cr2_0, cr2_1, cr2_2, cck_3, cr3_0, cr3_1, cg3_2, cp3_2, cg3_3, cp3_3, cg3_4, cp3_4, cg3_5, cp3_5, cg3_6, cp3_6, cg3_7, cp3_7, cg3_8, cp3_8, cck_4, cg4_0, cp4_0, cg4_1, cp4_1, cr4_2, cr4_3, cr4_4, cr4_5, cck_5, cg5_0, cp5_0, cr5_1, cr5_2, cr5_3, cck_6, cg6_0, cp6_0, cg6_1, cp6_1, cck_7, cg7_0, cp7_0, cg7_1, cp7_1, cr7_2, cr7_3, cr7_4, cr7_5, cr7_6, cr7_7, cr7_8, cck_8, cr8_0, cr8_1, cck_9, cr9_0, cr9_1, cr9_2, cr9_3, cg9_4, cp9_4, cck_10, cg10_0, cp10_0, cr10_1, cr10_2, cr10_3, cr10_4, cg10_5, cp10_5, cr10_6, cr10_7, cr10_8, cg10_9, cp10_9, cg10_10, cp10_10, cr10_11, cr10_12, cr10_13, cr10_14, cck_11, cr11_0, cg11_1, cp11_1, cr11_2, cr11_3, cr11_4, cr11_5, cr11_6, cr11_7, cr11_8, cr11_9, cr11_10, cr11_11, cr11_12, cr11_13, cr11_14, ca_30, cs_30, ca_31, cs_31, ca_32, cs_32, ca_33, cs_33, ca_34, cs_34, ca_35, cs_35, ca_36, cs_36, ca_37, cs_37, ca_38, cs_38, ca_39, cs_39, ca_40, cs_40, ca_41, cs_41, ca_42, cs_42, car_20, car_21, car_22, cq11_3, cq11_4, cq3_1, cq0_0, cq0_1, if_true, if_false, Option.bind_some, cb, lt, nI_1, hs_nar2, nh4, upd_at, vau_at, ca_42_0, cs_42_0, u4, if_pos cz]
      rfl
    · simp -implicitDefEqProofs (disch := first | assumption | omega | decide | exact And.intro (by omega) (by omega)) only [mck, mg_0, mp_0, mr_1, mg_2, mp_2, mr_3, mg_4, mp_4, mr_5, mr_6, mr_7, mr_8, mr_9, mg_10, mp_10, mg_11, mp_11, mg_12, mp_12, mg_13, mp_13, mg_14, mp_14, mg_15, mp_15, mg_16, mp_16, mg_17, mp_17, mg_18, mp_18, mg_19, mp_19, mg_20, mp_20, mr_21, mr_22, mr_23, mr_24, mr_25, mr_26, mr_27, mr_28, mr_29, mr_30, mr_31, mr_32, mg_33, mp_33, mr_34, mr_35, mr_36, mr_37, mr_38, mg_39, mp_39, mr_40, mr_41, mr_42, mg_43, mp_43, mr_44, mr_45, mg_46, mp_46, mr_47, mr_48, mg_49, mp_49, mg_50, mp_50, mg_51, mp_51, mr_52, mr_53, mr_54, mg_55, mp_55, mr_56, mr_57, mg_58, mp_58, mg_59, mp_59, mg_60, mp_60, mr_61, mg_62, mp_62, mr_63, mr_64, mr_65, mr_66, mr_67, mr_68, ma_1, ms_1, ma_2, ms_2, ma_3, ms_3, ma_4, ms_4, ma_5, ms_5, ma_6, ms_6, ma_7, ms_7, ma_8, ms_8, ma_9, ms_9, ma_10, ms_10, ma_11, ms_11, ma_12, ms_12, ma_13, ms_13, ma_14, ms_14, ma_15, ms_15, ma_16, ms_16, ma_17, ms_17, ma_18, ms_18, ma_19, ms_19, ma_20, ms_20, ma_21, ms_21, ma_22, ms_22, ma_23, ms_23, ma_24, ms_24, ma_25, ms_25, ma_26, ms_26, ma_27, ms_27, ma_28, ms_28, ma_29, ms_29, ma_30, ms_30, ma_31, ms_31, ma_32, ms_32, ma_33, ms_33, ma_34, ms_34, ma_35, ms_35, ma_36, ms_36, ma_37, ms_37, ma_38, ms_38, ma_39, ms_39, ma_40, ms_40, ma_41, ms_41, ma_42, ms_42, ma_43, ms_43, if_true, if_false, Option.bind_some, cb, lt, nI_1, hs_nar2, nh4, upd_at, vau_at, ma_30_18, ms_30_18, ma_31_18, ms_31_18, ma_28_0, ms_28_0, ma_28_1, ms_28_1, ma_28_2, ms_28_2, ma_28_3, ms_28_3, ma_28_4, ms_28_4, ma_42_0, ms_42_0, ma_42_1, ms_42_1, ma_42_2, ms_42_2, ma_36_0, ms_36_0, u3, if_pos cz]
  · have cz : ¬ nI u = 0 := nI_ne0 (by omega) (by omega)
    have sub1 : nI u - 1 = nI (u - 1) := pk_sub (b := 1) (by omega)
    have hring := u10 (u - 1) (by omega)
    rw [show (w + 50 - (u - 1 - (u - 1))) % 50 = w by omega, show u - 1 + 1 = u by omega] at hring
    have gQ := u6 (u - 1) (by omega)
    have gQ6 := gQ.1
    have back := c_back (P := ps u) (Q := ps (u - 1)) Bc rc cz u4 u5 u2 u9 h6 gQ hC.2.1.1.1 hring
    obtain ⟨Fc1, Ac1, q1, q2, q3⟩ := back
    have e49 : Fc1 49 = Fc 49 := q3.1 49 (by decide)
    have e0 : Fc1 49 0 = nI u := by rw [e49]; exact u4
    have e1 : Fc1 49 1 = nI w := by rw [e49]; exact u5
    have e0' : upd (Fc1 49) 1 (nI ((w + 49) % 50)) 0 = nI u := e0
    have hr := rem50b w u2
    have cls : ∃ Fc2, fX4_takeBack 49 38 (mkC Fc Ac Bc rc) = some (1, mkC Fc2 Ac1 Bc rc) ∧ Fc2 49 0 = nI (u - 1) ∧ Fc2 49 1 = nI ((w + 49) % 50) ∧ ∀ c, ¬ c = 49 → Fc2 c = Fc1 c := by
      rw [q1]
      unfold fX4_takeBack_b108
      simp -implicitDefEqProofs (disch := first | assumption | omega | decide | exact And.intro (by omega) (by omega)) only [cck_0, cr0_0, cr0_1, cr0_2, cr0_3, cg0_4, cp0_4, cg0_5, cp0_5, cck_1, cg1_0, cp1_0, cr1_1, cr1_2, cr1_3, cg1_4, cp1_4, cg1_5, cp1_5, cr1_6, cr1_7, cck_2, cr2_0, cr2_1, cr2_2, cck_3, cr3_0, cr3_1, cg3_2, cp3_2, cg3_3, cp3_3, cg3_4, cp3_4, cg3_5, cp3_5, cg3_6, cp3_6, cg3_7, cp3_7, cg3_8, cp3_8, cck_4, cg4_0, cp4_0, cg4_1, cp4_1, cr4_2, cr4_3, cr4_4, cr4_5, cck_5, cg5_0, cp5_0, cr5_1, cr5_2, cr5_3, cck_6, cg6_0, cp6_0, cg6_1, cp6_1, cck_7, cg7_0, cp7_0, cg7_1, cp7_1, cr7_2, cr7_3, cr7_4, cr7_5, cr7_6, cr7_7, cr7_8, cck_8, cr8_0, cr8_1, cck_9, cr9_0, cr9_1, cr9_2, cr9_3, cg9_4, cp9_4, cck_10, cg10_0, cp10_0, cr10_1, cr10_2, cr10_3, cr10_4, cg10_5, cp10_5, cr10_6, cr10_7, cr10_8, cg10_9, cp10_9, cg10_10, cp10_10, cr10_11, cr10_12, cr10_13, cr10_14, cck_11, cr11_0, cg11_1, cp11_1, cr11_2, cr11_3, cr11_4, cr11_5, cr11_6, cr11_7, cr11_8, cr11_9, cr11_10, cr11_11, cr11_12, cr11_13, cr11_14, ca_30, cs_30, ca_31, cs_31, ca_32, cs_32, ca_33, cs_33, ca_34, cs_34, ca_35, cs_35, ca_36, cs_36, ca_37, cs_37, ca_38, cs_38, ca_39, cs_39, ca_40, cs_40, ca_41, cs_41, ca_42, cs_42, car_20, car_21, car_22, cq11_3, cq11_4, cq3_1, cq0_0, cq0_1, if_true, if_false, Option.bind_some, cb, lt, nI_1, hs_nar2, nh4, upd_at, vau_at, ca_42_0, cs_42_0, e1, hr, e0', sub1]
      exact ⟨_, rfl, by rw [vau_at, upd_at], by rw [vau_at, upd_ne (by decide), upd_at], fun c hc => by rw [vau_ne hc, vau_ne hc]⟩
    obtain ⟨Fc2, r1, r2, r3, r4⟩ := cls
    have m1 := m_cp6 (F := upd F 55 (nI (u - 1))) (A := A) (B := B) (upd_at _ _ _) (show u - 1 < 50 by omega) 20 0 FU (by omega) (by decide)
    rw [cpA_0, vau_id] at m1
    have t7 := hC.t7
    have old := u7 (u - 1) (by omega)
    refine ⟨1, mkC Fc2 Ac1 Bc rc, mkM (upd F 55 (nI (u - 1))) (va_up A 30 (cpA (A 30) (A 35) 0 (20 * (u - 1)) 20)) B, ?_, ?_, rel_of (t := t) (lv := lv) (T := T) (u := u - 1) (w := (w + 49) % 50) (ps := ps) (n7 := n7) (sp := sp) (hT.eq rfl (vau_ne (by decide)) (by rw [r4 0 (by decide), q3.1 0 (by decide)]) (q3.2 1 (by decide) (by decide) (by decide))) (hC.set3 ⟨rfl, rfl, rfl⟩ (fun c hc z1 z2 => vau_ne z1) rfl ⟨by rw [r4 37 (by decide), q3.1 37 (by decide)], by rw [r4 69 (by decide), q3.1 69 (by decide)], fun c hc z1 z2 => by rw [r4 c z2, q3.1 c z1]⟩ (fun c hc z1 z2 => q3.2 c (by omega) (by omega) (by omega)) ⟨rfl, rfl, rfl⟩ ⟨by omega, by omega, upd_at _ _ _, r2, r3, fun j hj => u6 j (by omega), fun j hj => (u7 j (by omega)).eq (vau_ne (by decide)), ?_, q2.eq (r4 38 (by decide)) rfl rfl rfl, ?_⟩)⟩
    · simp -implicitDefEqProofs (disch := first | assumption | omega | decide | exact And.intro (by omega) (by omega)) only [cck_0, cr0_0, cr0_1, cr0_2, cr0_3, cg0_4, cp0_4, cg0_5, cp0_5, cck_1, cg1_0, cp1_0, cr1_1, cr1_2, cr1_3, cg1_4, cp1_4, cg1_5, cp1_5, cr1_6, cr1_7, cck_2, cr2_0, cr2_1, cr2_2, cck_3, cr3_0, cr3_1, cg3_2, cp3_2, cg3_3, cp3_3, cg3_4, cp3_4, cg3_5, cp3_5, cg3_6, cp3_6, cg3_7, cp3_7, cg3_8, cp3_8, cck_4, cg4_0, cp4_0, cg4_1, cp4_1, cr4_2, cr4_3, cr4_4, cr4_5, cck_5, cg5_0, cp5_0, cr5_1, cr5_2, cr5_3, cck_6, cg6_0, cp6_0, cg6_1, cp6_1, cck_7, cg7_0, cp7_0, cg7_1, cp7_1, cr7_2, cr7_3, cr7_4, cr7_5, cr7_6, cr7_7, cr7_8, cck_8, cr8_0, cr8_1, cck_9, cr9_0, cr9_1, cr9_2, cr9_3, cg9_4, cp9_4, cck_10, cg10_0, cp10_0, cr10_1, cr10_2, cr10_3, cr10_4, cg10_5, cp10_5, cr10_6, cr10_7, cr10_8, cg10_9, cp10_9, cg10_10, cp10_10, cr10_11, cr10_12, cr10_13, cr10_14, cck_11, cr11_0, cg11_1, cp11_1, cr11_2, cr11_3, cr11_4, cr11_5, cr11_6, cr11_7, cr11_8, cr11_9, cr11_10, cr11_11, cr11_12, cr11_13, cr11_14, ca_30, cs_30, ca_31, cs_31, ca_32, cs_32, ca_33, cs_33, ca_34, cs_34, ca_35, cs_35, ca_36, cs_36, ca_37, cs_37, ca_38, cs_38, ca_39, cs_39, ca_40, cs_40, ca_41, cs_41, ca_42, cs_42, car_20, car_21, car_22, cq11_3, cq11_4, cq3_1, cq0_0, cq0_1, if_true, if_false, Option.bind_some, cb, lt, nI_1, hs_nar2, nh4, upd_at, vau_at, ca_42_0, cs_42_0, r1]
      rfl
    · simp -implicitDefEqProofs (disch := first | assumption | omega | decide | exact And.intro (by omega) (by omega)) only [mck, mg_0, mp_0, mr_1, mg_2, mp_2, mr_3, mg_4, mp_4, mr_5, mr_6, mr_7, mr_8, mr_9, mg_10, mp_10, mg_11, mp_11, mg_12, mp_12, mg_13, mp_13, mg_14, mp_14, mg_15, mp_15, mg_16, mp_16, mg_17, mp_17, mg_18, mp_18, mg_19, mp_19, mg_20, mp_20, mr_21, mr_22, mr_23, mr_24, mr_25, mr_26, mr_27, mr_28, mr_29, mr_30, mr_31, mr_32, mg_33, mp_33, mr_34, mr_35, mr_36, mr_37, mr_38, mg_39, mp_39, mr_40, mr_41, mr_42, mg_43, mp_43, mr_44, mr_45, mg_46, mp_46, mr_47, mr_48, mg_49, mp_49, mg_50, mp_50, mg_51, mp_51, mr_52, mr_53, mr_54, mg_55, mp_55, mr_56, mr_57, mg_58, mp_58, mg_59, mp_59, mg_60, mp_60, mr_61, mg_62, mp_62, mr_63, mr_64, mr_65, mr_66, mr_67, mr_68, ma_1, ms_1, ma_2, ms_2, ma_3, ms_3, ma_4, ms_4, ma_5, ms_5, ma_6, ms_6, ma_7, ms_7, ma_8, ms_8, ma_9, ms_9, ma_10, ms_10, ma_11, ms_11, ma_12, ms_12, ma_13, ms_13, ma_14, ms_14, ma_15, ms_15, ma_16, ms_16, ma_17, ms_17, ma_18, ms_18, ma_19, ms_19, ma_20, ms_20, ma_21, ms_21, ma_22, ms_22, ma_23, ms_23, ma_24, ms_24, ma_25, ms_25, ma_26, ms_26, ma_27, ms_27, ma_28, ms_28, ma_29, ms_29, ma_30, ms_30, ma_31, ms_31, ma_32, ms_32, ma_33, ms_33, ma_34, ms_34, ma_35, ms_35, ma_36, ms_36, ma_37, ms_37, ma_38, ms_38, ma_39, ms_39, ma_40, ms_40, ma_41, ms_41, ma_42, ms_42, ma_43, ms_43, if_true, if_false, Option.bind_some, cb, lt, nI_1, hs_nar2, nh4, upd_at, vau_at, ma_30_18, ms_30_18, ma_31_18, ms_31_18, ma_28_0, ms_28_0, ma_28_1, ms_28_1, ma_28_2, ms_28_2, ma_28_3, ms_28_3, ma_28_4, ms_28_4, ma_42_0, ms_42_0, ma_42_1, ms_42_1, ma_42_2, ms_42_2, ma_36_0, ms_36_0, u3, if_neg cz, sub1]
      rw [show (0 : Int32) = nI 0 from rfl, m1]
    · unfold MPile
      rw [vau_at]
      have q : ∀ k, k < 20 → cpA (A 30) (A 35) 0 (20 * (u - 1)) 20 (0 + k) = A 35 (20 * (u - 1) + k) := fun k hk => cpA_in hk
      refine ⟨by rw [q 18 (by omega)]; exact old.1, fun i hi => ?_⟩
      rw [q i (by omega), Nat.add_assoc, q (6 + i) (by omega), Nat.add_assoc, q (12 + i) (by omega)]
      have := old.2 i hi
      simpa only [Nat.add_assoc] using this
    · intro j hj
      have := u10 j (by omega)
      rw [q3.2 50 (by decide) (by decide) (by decide), q3.2 51 (by decide) (by decide) (by decide), q3.2 52 (by decide) (by decide) (by decide), q3.2 53 (by decide) (by decide) (by decide)]
      rw [show ((w + 49) % 50 + 50 - (u - 1 - 1 - j)) % 50 = (w + 50 - (u - 1 - j)) % 50 by omega]
      exact this
/-- copying a pile of the class -/
theorem c_copyFrom {F A : Nat → Nat → Int32} (B : Nat → Nat → Int64) (r : Nat → Nat) {h h' : Nat} {P : AP} (hp : PA h) (hp' : PA h') (hd : h + 4 ≤ h' ∨ h' + 4 ≤ h) (h5 : CPile F A h' P) (h6 : P.1 ≤ 6) (h7 : ∀ i, i < P.1 → pB P i < 6) (h8 : ∀ i, i < P.1 → pG P i = 0 ∨ pG P i = 1) : ∃ F' A', fX5_copyFrom h h' (mkC F A B r) = some ((), mkC F' A' B r) ∧ CPile F' A' h P ∧ OnlyP h F F' A A' := by
  have p0 := hp.1
  obtain ⟨q0, q1, q2, q3⟩ := hp'
  have key : ∀ k i fuel, i + k = P.1 → k < fuel → ∀ (F1 A1 : Nat → Nat → Int32), OnlyP h F F1 A A1 → CPile F1 A1 h (i, P.2) → ∃ F' A', fX5_copyFrom_b7 fuel h h' (nI i) (mkC F1 A1 B r) = some ((), mkC F' A' B r) ∧ CPile F' A' h P ∧ OnlyP h F F' A A' := by
    intro k
    induction k with
    | zero =>
      intro i fuel h1 h2 F1 A1 g1 g2
      obtain ⟨fuel, rfl⟩ : ∃ q, fuel = q + 1 := ⟨fuel - 1, by omega⟩
      have hs : F1 h' 0 = nI P.1 := by rw [g1.1 h' (by omega)]; exact h5.1
      rw [fX5_copyFrom_b7]
      simp -implicitDefEqProofs (disch := first | assumption | omega | decide | exact And.intro (by omega) (by omega)) only [cck_0, cr0_0, cr0_1, cr0_2, cr0_3, cg0_4, cp0_4, cg0_5, cp0_5, cck_1, cg1_0, cp1_0, cr1_1, cr1_2, cr1_3, cg1_4, cp1_4, cg1_5, cp1_5, cr1_6, cr1_7, cck_2, cr2_0, cr2_1, cr2_2, cck_3, cr3_0, cr3_1, cg3_2, cp3_2, cg3_3, cp3_3, cg3_4, cp3_4, cg3_5, cp3_5, cg3_6, cp3_6, cg3_7, cp3_7, cg3_8, cp3_8, cck_4, cg4_0, cp4_0, cg4_1, cp4_1, cr4_2, cr4_3, cr4_4, cr4_5, cck_5, cg5_0, cp5_0, cr5_1, cr5_2, cr5_3, cck_6, cg6_0, cp6_0, cg6_1, cp6_1, cck_7, cg7_0, cp7_0, cg7_1, cp7_1, cr7_2, cr7_3, cr7_4, cr7_5, cr7_6, cr7_7, cr7_8, cck_8, cr8_0, cr8_1, cck_9, cr9_0, cr9_1, cr9_2, cr9_3, cg9_4, cp9_4, cck_10, cg10_0, cp10_0, cr10_1, cr10_2, cr10_3, cr10_4, cg10_5, cp10_5, cr10_6, cr10_7, cr10_8, cg10_9, cp10_9, cg10_10, cp10_10, cr10_11, cr10_12, cr10_13, cr10_14, cck_11, cr11_0, cg11_1, cp11_1, cr11_2, cr11_3, cr11_4, cr11_5, cr11_6, cr11_7, cr11_8, cr11_9, cr11_10, cr11_11, cr11_12, cr11_13, cr11_14, ca_30, cs_30, ca_31, cs_31, ca_32, cs_32, ca_33, cs_33, ca_34, cs_34, ca_35, cs_35, ca_36, cs_36, ca_37, cs_37, ca_38, cs_38, ca_39, cs_39, ca_40, cs_40, ca_41, cs_41, ca_42, cs_42, car_20, car_21, car_22, cq11_3, cq11_4, cq3_1, cq0_0, cq0_1, if_true, if_false, Option.bind_some, cb, lt, nI_1, hs_nar2, nh4, upd_at, vau_at, ca_42_0, cs_42_0, hs]
      rw [if_pos (nI_le (by omega) (by omega))]
      have : i = P.1 := by omega
      subst this
      exact ⟨_, _, rfl, g2, g1⟩
    | succ k ih =>
      intro i fuel h1 h2 F1 A1 g1 g2
      obtain ⟨fuel, rfl⟩ : ∃ q, fuel = q + 1 := ⟨fuel - 1, by omega⟩
      have hs : F1 h' 0 = nI P.1 := by rw [g1.1 h' (by omega)]; exact h5.1
      obtain ⟨e1, e2, e3⟩ := h5.2 i (by omega)
      have e1' : A1 (h' + 1) i = nI (P.2.1 i) := by rw [g1.2 _ (by omega) (by omega) (by omega)]; exact e1
      have e2' : A1 (h' + 2) i = iI (P.2.2.1 i) := by rw [g1.2 _ (by omega) (by omega) (by omega)]; exact e2
      have e3' : A1 (h' + 3) i = P.2.2.2 i := by rw [g1.2 _ (by omega) (by omega) (by omega)]; exact e3
      obtain ⟨F2, A2, z1, z2, z3⟩ := c_put B r hp g2 (show i < 6 by omega) (b := P.2.1 i) (h7 i (by omega)) (P.2.2.1 i) (h8 i (by omega))
      rw [fX5_copyFrom_b7]
      simp -implicitDefEqProofs (disch := first | assumption | omega | decide | exact And.intro (by omega) (by omega)) only [cck_0, cr0_0, cr0_1, cr0_2, cr0_3, cg0_4, cp0_4, cg0_5, cp0_5, cck_1, cg1_0, cp1_0, cr1_1, cr1_2, cr1_3, cg1_4, cp1_4, cg1_5, cp1_5, cr1_6, cr1_7, cck_2, cr2_0, cr2_1, cr2_2, cck_3, cr3_0, cr3_1, cg3_2, cp3_2, cg3_3, cp3_3, cg3_4, cp3_4, cg3_5, cp3_5, cg3_6, cp3_6, cg3_7, cp3_7, cg3_8, cp3_8, cck_4, cg4_0, cp4_0, cg4_1, cp4_1, cr4_2, cr4_3, cr4_4, cr4_5, cck_5, cg5_0, cp5_0, cr5_1, cr5_2, cr5_3, cck_6, cg6_0, cp6_0, cg6_1, cp6_1, cck_7, cg7_0, cp7_0, cg7_1, cp7_1, cr7_2, cr7_3, cr7_4, cr7_5, cr7_6, cr7_7, cr7_8, cck_8, cr8_0, cr8_1, cck_9, cr9_0, cr9_1, cr9_2, cr9_3, cg9_4, cp9_4, cck_10, cg10_0, cp10_0, cr10_1, cr10_2, cr10_3, cr10_4, cg10_5, cp10_5, cr10_6, cr10_7, cr10_8, cg10_9, cp10_9, cg10_10, cp10_10, cr10_11, cr10_12, cr10_13, cr10_14, cck_11, cr11_0, cg11_1, cp11_1, cr11_2, cr11_3, cr11_4, cr11_5, cr11_6, cr11_7, cr11_8, cr11_9, cr11_10, cr11_11, cr11_12, cr11_13, cr11_14, ca_30, cs_30, ca_31, cs_31, ca_32, cs_32, ca_33, cs_33, ca_34, cs_34, ca_35, cs_35, ca_36, cs_36, ca_37, cs_37, ca_38, cs_38, ca_39, cs_39, ca_40, cs_40, ca_41, cs_41, ca_42, cs_42, car_20, car_21, car_22, cq11_3, cq11_4, cq3_1, cq0_0, cq0_1, if_true, if_false, Option.bind_some, cb, lt, nI_1, hs_nar2, nh4, upd_at, vau_at, ca_42_0, cs_42_0, hs]
      rw [if_neg (nI_ge (by omega) (by omega))]
      simp -implicitDefEqProofs (disch := first | assumption | omega | decide | exact And.intro (by omega) (by omega)) only [cck_0, cr0_0, cr0_1, cr0_2, cr0_3, cg0_4, cp0_4, cg0_5, cp0_5, cck_1, cg1_0, cp1_0, cr1_1, cr1_2, cr1_3, cg1_4, cp1_4, cg1_5, cp1_5, cr1_6, cr1_7, cck_2, cr2_0, cr2_1, cr2_2, cck_3, cr3_0, cr3_1, cg3_2, cp3_2, cg3_3, cp3_3, cg3_4, cp3_4, cg3_5, cp3_5, cg3_6, cp3_6, cg3_7, cp3_7, cg3_8, cp3_8, cck_4, cg4_0, cp4_0, cg4_1, cp4_1, cr4_2, cr4_3, cr4_4, cr4_5, cck_5, cg5_0, cp5_0, cr5_1, cr5_2, cr5_3, cck_6, cg6_0, cp6_0, cg6_1, cp6_1, cck_7, cg7_0, cp7_0, cg7_1, cp7_1, cr7_2, cr7_3, cr7_4, cr7_5, cr7_6, cr7_7, cr7_8, cck_8, cr8_0, cr8_1, cck_9, cr9_0, cr9_1, cr9_2, cr9_3, cg9_4, cp9_4, cck_10, cg10_0, cp10_0, cr10_1, cr10_2, cr10_3, cr10_4, cg10_5, cp10_5, cr10_6, cr10_7, cr10_8, cg10_9, cp10_9, cg10_10, cp10_10, cr10_11, cr10_12, cr10_13, cr10_14, cck_11, cr11_0, cg11_1, cp11_1, cr11_2, cr11_3, cr11_4, cr11_5, cr11_6, cr11_7, cr11_8, cr11_9, cr11_10, cr11_11, cr11_12, cr11_13, cr11_14, ca_30, cs_30, ca_31, cs_31, ca_32, cs_32, ca_33, cs_33, ca_34, cs_34, ca_35, cs_35, ca_36, cs_36, ca_37, cs_37, ca_38, cs_38, ca_39, cs_39, ca_40, cs_40, ca_41, cs_41, ca_42, cs_42, car_20, car_21, car_22, cq11_3, cq11_4, cq3_1, cq0_0, cq0_1, if_true, if_false, Option.bind_some, cb, lt, nI_1, hs_nar2, nh4, upd_at, vau_at, ca_42_0, cs_42_0, e1', e2', e3', z1]
      refine ih (i + 1) fuel (by omega) (by omega) F2 A2 (g1.tr z3) (z2.ap ⟨rfl, fun j hj => ?_⟩)
      show (if j = i then P.2.1 i else P.2.1 j) = _ ∧ (if j = i then P.2.2.1 i else P.2.2.1 j) = _ ∧ (if j = i then P.2.2.2 i else P.2.2.2 j) = _
      by_cases cj : j = i
      · rw [if_pos cj, if_pos cj, if_pos cj, cj]
        exact ⟨rfl, rfl, rfl⟩
      · rw [if_neg cj, if_neg cj, if_neg cj]
        exact ⟨rfl, rfl, rfl⟩
  obtain ⟨F', A', z1, z2, z3⟩ := key P.1 0 FU (by omega) (by unfold FU; omega) (va_up F h (upd (F h) 0 0)) A ⟨fun c hc => vau_ne hc, fun _ _ _ _ => rfl⟩ ⟨by rw [vau_at]; exact upd_at _ _ _, fun i hi => absurd hi (Nat.not_lt_zero i)⟩
  refine ⟨F', A', ?_, z2, z3⟩
  unfold fX5_copyFrom
  simp -implicitDefEqProofs (disch := first | assumption | omega | decide | exact And.intro (by omega) (by omega)) only [cck_0, cr0_0, cr0_1, cr0_2, cr0_3, cg0_4, cp0_4, cg0_5, cp0_5, cck_1, cg1_0, cp1_0, cr1_1, cr1_2, cr1_3, cg1_4, cp1_4, cg1_5, cp1_5, cr1_6, cr1_7, cck_2, cr2_0, cr2_1, cr2_2, cck_3, cr3_0, cr3_1, cg3_2, cp3_2, cg3_3, cp3_3, cg3_4, cp3_4, cg3_5, cp3_5, cg3_6, cp3_6, cg3_7, cp3_7, cg3_8, cp3_8, cck_4, cg4_0, cp4_0, cg4_1, cp4_1, cr4_2, cr4_3, cr4_4, cr4_5, cck_5, cg5_0, cp5_0, cr5_1, cr5_2, cr5_3, cck_6, cg6_0, cp6_0, cg6_1, cp6_1, cck_7, cg7_0, cp7_0, cg7_1, cp7_1, cr7_2, cr7_3, cr7_4, cr7_5, cr7_6, cr7_7, cr7_8, cck_8, cr8_0, cr8_1, cck_9, cr9_0, cr9_1, cr9_2, cr9_3, cg9_4, cp9_4, cck_10, cg10_0, cp10_0, cr10_1, cr10_2, cr10_3, cr10_4, cg10_5, cp10_5, cr10_6, cr10_7, cr10_8, cg10_9, cp10_9, cg10_10, cp10_10, cr10_11, cr10_12, cr10_13, cr10_14, cck_11, cr11_0, cg11_1, cp11_1, cr11_2, cr11_3, cr11_4, cr11_5, cr11_6, cr11_7, cr11_8, cr11_9, cr11_10, cr11_11, cr11_12, cr11_13, cr11_14, ca_30, cs_30, ca_31, cs_31, ca_32, cs_32, ca_33, cs_33, ca_34, cs_34, ca_35, cs_35, ca_36, cs_36, ca_37, cs_37, ca_38, cs_38, ca_39, cs_39, ca_40, cs_40, ca_41, cs_41, ca_42, cs_42, car_20, car_21, car_22, cq11_3, cq11_4, cq3_1, cq0_0, cq0_1, if_true, if_false, Option.bind_some, cb, lt, nI_1, hs_nar2, nh4, upd_at, vau_at, ca_42_0, cs_42_0]
  exact z1
