/-! ===== hold, restore ===== -/
theorem PA_slot {s : Nat} (h : s < 3) : PA (57 + 4 * s) := by
  have : s = 0 ∨ s = 1 ∨ s = 2 := by omega
  rcases this with rfl | rfl | rfl <;> exact ⟨rfl, rfl, rfl, rfl⟩
theorem ag_hold : Ag_I Rel fX11_hold fX12_hold := by
  intro σc σm a hR
  obtain ⟨F, A, B, Fc, Ac, Bc, rc, t, lv, T, u, w, ps, n7, sp, rfl, rfl, hT, hC⟩ := id hR
  obtain ⟨x, hx, rfl⟩ := iI_of a
  have e0 : (0 : Int32) = iI 0 := rfl
  have e2 : (2 : Int32) = iI 2 := rfl
  have hin : fX12_in (iI x) 0 2 (mkM F A B) = some (b2 (decide (0 ≤ x ∧ x ≤ 2)), mkM F A B) := by
    rw [e0, e2]
    exact m_in hx ⟨by decide, by decide⟩ ⟨by decide, by decide⟩ _
  have l0 := iI_lt0 hx
  have l3 : (iI x < 3) ↔ x < 3 := iI_lt (b := 3) hx ⟨by decide, by decide⟩
  unfold fX11_hold fX12_hold fX8_keep
  by_cases c : 0 ≤ x ∧ x ≤ 2
  · obtain ⟨s, hs, rfl⟩ := nat_of (n := 3) (x := x) (by omega)
    have es : iI (s : Int) = nI s := rfl
    have t7 := hC.t7
    have n0 : ¬ nI s < 0 := nI_pos (by omega)
    have n3 : nI s < 3 := l3.2 (by omega)
    rw [es] at hin ⊢
    obtain ⟨u1, u2, u3, u4, u5, u6, u7, u8, u9, u10⟩ := hC.c3
    obtain ⟨Fc1, Ac1, q1, q2, q3⟩ := c_copyFrom (F := Fc) (A := Ac) Bc rc (PA_slot hs) (PA_of (Or.inl rfl)) (Or.inr (by omega)) u9 hC.goodP.1 (hC.goodP.lt6 hC.2.1.1) hC.goodP.2.2.2.2
    have nar1 : hs_nar 4 1 = 1 := rfl
    have m1 := m_cp9 (F := F) (A := va_up A 42 (upd (A 42) s 1)) (B := B) hs 20 0 FU (by omega) (by decide)
    rw [cpA_0, vau_id] at m1
    refine ⟨1, mkC Fc1 (va_up Ac1 56 (upd (Ac1 56) s 1)) Bc rc, mkM F (va_up (va_up A 42 (upd (A 42) s 1)) 43 (cpA (va_up A 42 (upd (A 42) s 1) 43) (va_up A 42 (upd (A 42) s 1) 30) (20 * s) 0 20)) B, ?_, ?_, rel_of (t := t) (lv := lv) (T := T) (u := u) (w := w) (ps := ps) (n7 := n7) (sp := sp) (hT.eq rfl (by rw [vau_ne (by decide), vau_ne (by decide)]) (by rw [q3.1 0 (by omega)]) (by rw [vau_ne (by decide)]; exact q3.2 1 (by omega) (by omega) (by omega))) ?_⟩
    · simp -implicitDefEqProofs (disch := first | assumption | omega | decide | exact And.intro (by omega) (by omega)) only [cck_0, cr0_0, cr0_1, cr0_2, cr0_3, cg0_4, cp0_4, cg0_5, cp0_5, cck_1, cg1_0, cp1_0, cr1_1, cr1_2, cr1_3, cg1_4, cp1_4, cg1_5, cp1_5, cr1_6, cr1_7, cck_2, cr2_0, cr2_1, cr2_2, cck_3, cr3_0, cr3_1, cg3_2, cp3_2, cg3_3, cp3_3, cg3_4, cp3_4, cg3_5, cp3_5, cg3_6, cp3_6, cg3_7, cp3_7, cg3_8, cp3_8, cck_4, cg4_0, cp4_0, cg4_1, cp4_1, cr4_2, cr4_3, cr4_4, cr4_5, cck_5, cg5_0, cp5_0, cr5_1, cr5_2, cr5_3, cck_6, cg6_0, cp6_0, cg6_1, cp6_1, cck_7, cg7_0, cp7_0, cg7_1, cp7_1, cr7_2, cr7_3, cr7_4, cr7_5, cr7_6, cr7_7, cr7_8, cck_8, cr8_0, cr8_1, cck_9, cr9_0, cr9_1, cr9_2, cr9_3, cg9_4, cp9_4, cck_10, cg10_0, cp10_0, cr10_1, cr10_2, cr10_3, cr10_4, cg10_5, cp10_5, cr10_6, cr10_7, cr10_8, cg10_9, cp10_9, cg10_10, cp10_10, cr10_11, cr10_12, cr10_13, cr10_14, cck_11, cr11_0, cg11_1, cp11_1, cr11_2, cr11_3, cr11_4, cr11_5, cr11_6, cr11_7, cr11_8, cr11_9, cr11_10, cr11_11, cr11_12, cr11_13, cr11_14, ca_30, cs_30, ca_31, cs_31, ca_32, cs_32, ca_33, cs_33, ca_34, cs_34, ca_35, cs_35, ca_36, cs_36, ca_37, cs_37, ca_38, cs_38, ca_39, cs_39, ca_40, cs_40, ca_41, cs_41, ca_42, cs_42, car_20, car_21, car_22, cq11_3, cq11_4, cq3_1, cq0_0, cq0_1, if_true, if_false, Option.bind_some, cb, lt, nI_1, hs_nar2, nh4, upd_at, vau_at, ca_42_0, cs_42_0, if_neg n0, if_pos n3, q1, nar1]
      rfl
    · simp -implicitDefEqProofs (disch := first | assumption | omega | decide | exact And.intro (by omega) (by omega)) only [mck, mg_0, mp_0, mr_1, mg_2, mp_2, mr_3, mg_4, mp_4, mr_5, mr_6, mr_7, mr_8, mr_9, mg_10, mp_10, mg_11, mp_11, mg_12, mp_12, mg_13, mp_13, mg_14, mp_14, mg_15, mp_15, mg_16, mp_16, mg_17, mp_17, mg_18, mp_18, mg_19, mp_19, mg_20, mp_20, mr_21, mr_22, mr_23, mr_24, mr_25, mr_26, mr_27, mr_28, mr_29, mr_30, mr_31, mr_32, mg_33, mp_33, mr_34, mr_35, mr_36, mr_37, mr_38, mg_39, mp_39, mr_40, mr_41, mr_42, mg_43, mp_43, mr_44, mr_45, mg_46, mp_46, mr_47, mr_48, mg_49, mp_49, mg_50, mp_50, mg_51, mp_51, mr_52, mr_53, mr_54, mg_55, mp_55, mr_56, mr_57, mg_58, mp_58, mg_59, mp_59, mg_60, mp_60, mr_61, mg_62, mp_62, mr_63, mr_64, mr_65, mr_66, mr_67, mr_68, ma_1, ms_1, ma_2, ms_2, ma_3, ms_3, ma_4, ms_4, ma_5, ms_5, ma_6, ms_6, ma_7, ms_7, ma_8, ms_8, ma_9, ms_9, ma_10, ms_10, ma_11, ms_11, ma_12, ms_12, ma_13, ms_13, ma_14, ms_14, ma_15, ms_15, ma_16, ms_16, ma_17, ms_17, ma_18, ms_18, ma_19, ms_19, ma_20, ms_20, ma_21, ms_21, ma_22, ms_22, ma_23, ms_23, ma_24, ms_24, ma_25, ms_25, ma_26, ms_26, ma_27, ms_27, ma_28, ms_28, ma_29, ms_29, ma_30, ms_30, ma_31, ms_31, ma_32, ms_32, ma_33, ms_33, ma_34, ms_34, ma_35, ms_35, ma_36, ms_36, ma_37, ms_37, ma_38, ms_38, ma_39, ms_39, ma_40, ms_40, ma_41, ms_41, ma_42, ms_42, ma_43, ms_43, if_true, if_false, Option.bind_some, cb, lt, nI_1, hs_nar2, nh4, upd_at, vau_at, ma_30_18, ms_30_18, ma_31_18, ms_31_18, ma_28_0, ms_28_0, ma_28_1, ms_28_1, ma_28_2, ms_28_2, ma_28_3, ms_28_3, ma_28_4, ms_28_4, ma_42_0, ms_42_0, ma_42_1, ms_42_1, ma_42_2, ms_42_2, ma_36_0, ms_36_0, hin]
      rw [decide_eq_true c, if_neg (show ¬ b2 true = 0 by decide)]
      rw [show (0 : Int32) = nI 0 from rfl, m1]
    · generalize hA2 : va_up (va_up A 42 (upd (A 42) s 1)) 43 (cpA (va_up A 42 (upd (A 42) s 1) 43) (va_up A 42 (upd (A 42) s 1) 30) (20 * s) 0 20) = A2
      have k42 : A2 42 = upd (A 42) s 1 := by rw [← hA2, vau_ne (by decide), vau_at]
      have k43 : A2 43 = cpA (A 43) (A 30) (20 * s) 0 20 := by rw [← hA2, vau_at, vau_ne (by decide), vau_ne (by decide)]
      have kA : ∀ c, ¬ c = 42 → ¬ c = 43 → A2 c = A c := fun c h1 h2 => by rw [← hA2, vau_ne h2, vau_ne h1]
      generalize hC2 : va_up Ac1 56 (upd (Ac1 56) s 1) = Ac2
      have j56 : Ac2 56 = upd (Ac 56) s 1 := by rw [← hC2, vau_at, q3.2 56 (by omega) (by omega) (by omega)]
      have jA : ∀ c, ¬ c = 56 → ¬ c = 57 + 4 * s + 1 → ¬ c = 57 + 4 * s + 2 → ¬ c = 57 + 4 * s + 3 → Ac2 c = Ac c := fun c h1 h2 h3 h4 => by rw [← hC2, vau_ne h1]; exact q3.2 c h2 h3 h4
      have jP : ∀ c, ¬ c = 56 → Ac2 c = Ac1 c := fun c h1 => by rw [← hC2, vau_ne h1]
      obtain ⟨⟨a1, a2, a3, a4, a5⟩, ⟨b1, b2', b3⟩, _, d1, ⟨f1, f2, f3, f4⟩, g1, g2⟩ := hC
      refine ⟨⟨a1, a2, a3, a4, by rw [q3.1 37 (by omega)]; exact a5⟩, ⟨b1, ?_, b3.eq (q3.1 t (by omega)) (fun c h1 h2 h3 => jA c (by omega) (by omega) (by omega) (by omega))⟩, ⟨u1, u2, u3, by rw [q3.1 49 (by omega)]; exact u4, by rw [q3.1 49 (by omega)]; exact u5, u6, fun j hj => (u7 j hj).eq (kA 35 (by decide) (by decide)), u8.eq (kA 30 (by decide) (by decide)), u9.eq (q3.1 38 (by omega)) (jA _ (by omega) (by omega) (by omega) (by omega)) (jA _ (by omega) (by omega) (by omega) (by omega)) (jA _ (by omega) (by omega) (by omega) (by omega)), ?_⟩, ?_, ⟨f1, f2, by rw [q3.1 69 (by omega)]; exact f3, fun j hj => ?_⟩, g1, g2⟩
      · have q : ∀ c, (9 ≤ c ∧ c ≤ 16) ∨ (18 ≤ c ∧ c ≤ 26) → A2 c = A c := fun c hc => kA c (by omega) (by omega)
        obtain ⟨h1, h2, h3, h4, h5, h6⟩ := b2'
        unfold MText
        rw [q 9 (by omega), q 10 (by omega), q 11 (by omega), q 12 (by omega), q 13 (by omega), q 14 (by omega), q 15 (by omega), q 16 (by omega), q 18 (by omega), q 19 (by omega)]
        refine ⟨h1, h2, h3, h4, h5, fun b hb => ?_⟩
        have h7 := h6 b hb
        cases hq : tLw T b with
        | none => rw [hq] at h7; exact h7
        | some f => rw [hq] at h7; exact LawM.eq h7 (fun c g1 g2 => q c (by omega))
      · intro j hj
        have := u10 j hj
        rw [jA 50 (by omega) (by omega) (by omega) (by omega), jA 51 (by omega) (by omega) (by omega) (by omega), jA 52 (by omega) (by omega) (by omega) (by omega), jA 53 (by omega) (by omega) (by omega) (by omega)]
        exact this
      · intro s2 hs2
        rw [k42, j56]
        by_cases cs : s2 = s
        · subst cs
          rw [upd_at, upd_at]
          refine ⟨rfl, Or.inr rfl, fun _ => ⟨ps u, u6 u (Nat.le_refl _), ?_, q2.eq rfl (jP _ (by omega)) (jP _ (by omega)) (jP _ (by omega))⟩⟩
          unfold MPile
          rw [k43]
          have q : ∀ k, k < 20 → cpA (A 43) (A 30) (20 * s2) 0 20 (20 * s2 + k) = A 30 (0 + k) := fun k hk => cpA_in hk
          have h6 := (u6 u (Nat.le_refl _)).1
          refine ⟨by rw [q 18 (by omega)]; exact u8.1, fun i hi => ?_⟩
          rw [q i (by omega), Nat.add_assoc, q (6 + i) (by omega), Nat.add_assoc, q (12 + i) (by omega)]
          have := u8.2 i hi
          simpa only [Nat.add_assoc] using this
        · obtain ⟨y1, y2, y3⟩ := d1 s2 hs2
          rw [upd_ne cs, upd_ne cs]
          refine ⟨y1, y2, fun y => ?_⟩
          obtain ⟨P, z1, z2, z3⟩ := y3 y
          refine ⟨P, z1, ?_, z3.eq (q3.1 _ (by omega)) (jA _ (by omega) (by omega) (by omega) (by omega)) (jA _ (by omega) (by omega) (by omega) (by omega)) (jA _ (by omega) (by omega) (by omega) (by omega))⟩
          unfold MPile
          rw [k43]
          have q : ∀ k, k < 20 → cpA (A 43) (A 30) (20 * s) 0 20 (20 * s2 + k) = A 43 (20 * s2 + k) := fun k hk => cpA_out (by omega)
          have h6 := z1.1
          refine ⟨by rw [q 18 (by omega)]; exact z2.1, fun i hi => ?_⟩
          rw [q i (by omega), Nat.add_assoc, q (6 + i) (by omega), Nat.add_assoc, q (12 + i) (by omega)]
          have := z2.2 i hi
          simpa only [Nat.add_assoc] using this
      · obtain ⟨y1, y2, y3⟩ := f4 j hj
        rw [kA 39 (by decide) (by decide)]
        exact ⟨y1, y2.eq (kA 38 (by decide) (by decide)), y3.eq (q3.1 _ (by omega)) (fun c h1 h2 => jA c (by omega) (by omega) (by omega) (by omega))⟩
  · refine ⟨0, mkC Fc Ac Bc rc, mkM F A B, ?_, ?_, hR⟩
    · simp -implicitDefEqProofs (disch := first | assumption | omega | decide | exact And.intro (by omega) (by omega)) only [cck_0, cr0_0, cr0_1, cr0_2, cr0_3, cg0_4, cp0_4, cg0_5, cp0_5, cck_1, cg1_0, cp1_0, cr1_1, cr1_2, cr1_3, cg1_4, cp1_4, cg1_5, cp1_5, cr1_6, cr1_7, cck_2, cr2_0, cr2_1, cr2_2, cck_3, cr3_0, cr3_1, cg3_2, cp3_2, cg3_3, cp3_3, cg3_4, cp3_4, cg3_5, cp3_5, cg3_6, cp3_6, cg3_7, cp3_7, cg3_8, cp3_8, cck_4, cg4_0, cp4_0, cg4_1, cp4_1, cr4_2, cr4_3, cr4_4, cr4_5, cck_5, cg5_0, cp5_0, cr5_1, cr5_2, cr5_3, cck_6, cg6_0, cp6_0, cg6_1, cp6_1, cck_7, cg7_0, cp7_0, cg7_1, cp7_1, cr7_2, cr7_3, cr7_4, cr7_5, cr7_6, cr7_7, cr7_8, cck_8, cr8_0, cr8_1, cck_9, cr9_0, cr9_1, cr9_2, cr9_3, cg9_4, cp9_4, cck_10, cg10_0, cp10_0, cr10_1, cr10_2, cr10_3, cr10_4, cg10_5, cp10_5, cr10_6, cr10_7, cr10_8, cg10_9, cp10_9, cg10_10, cp10_10, cr10_11, cr10_12, cr10_13, cr10_14, cck_11, cr11_0, cg11_1, cp11_1, cr11_2, cr11_3, cr11_4, cr11_5, cr11_6, cr11_7, cr11_8, cr11_9, cr11_10, cr11_11, cr11_12, cr11_13, cr11_14, ca_30, cs_30, ca_31, cs_31, ca_32, cs_32, ca_33, cs_33, ca_34, cs_34, ca_35, cs_35, ca_36, cs_36, ca_37, cs_37, ca_38, cs_38, ca_39, cs_39, ca_40, cs_40, ca_41, cs_41, ca_42, cs_42, car_20, car_21, car_22, cq11_3, cq11_4, cq3_1, cq0_0, cq0_1, if_true, if_false, Option.bind_some, cb, lt, nI_1, hs_nar2, nh4, upd_at, vau_at, ca_42_0, cs_42_0]
      by_cases c1 : x < 0
      · rw [if_pos (l0.2 c1)]; rfl
      · rw [if_neg (fun q => c1 (l0.1 q)), if_neg (fun q => by have := l3.1 q; omega)]; rfl
    · simp -implicitDefEqProofs (disch := first | assumption | omega | decide | exact And.intro (by omega) (by omega)) only [mck, mg_0, mp_0, mr_1, mg_2, mp_2, mr_3, mg_4, mp_4, mr_5, mr_6, mr_7, mr_8, mr_9, mg_10, mp_10, mg_11, mp_11, mg_12, mp_12, mg_13, mp_13, mg_14, mp_14, mg_15, mp_15, mg_16, mp_16, mg_17, mp_17, mg_18, mp_18, mg_19, mp_19, mg_20, mp_20, mr_21, mr_22, mr_23, mr_24, mr_25, mr_26, mr_27, mr_28, mr_29, mr_30, mr_31, mr_32, mg_33, mp_33, mr_34, mr_35, mr_36, mr_37, mr_38, mg_39, mp_39, mr_40, mr_41, mr_42, mg_43, mp_43, mr_44, mr_45, mg_46, mp_46, mr_47, mr_48, mg_49, mp_49, mg_50, mp_50, mg_51, mp_51, mr_52, mr_53, mr_54, mg_55, mp_55, mr_56, mr_57, mg_58, mp_58, mg_59, mp_59, mg_60, mp_60, mr_61, mg_62, mp_62, mr_63, mr_64, mr_65, mr_66, mr_67, mr_68, ma_1, ms_1, ma_2, ms_2, ma_3, ms_3, ma_4, ms_4, ma_5, ms_5, ma_6, ms_6, ma_7, ms_7, ma_8, ms_8, ma_9, ms_9, ma_10, ms_10, ma_11, ms_11, ma_12, ms_12, ma_13, ms_13, ma_14, ms_14, ma_15, ms_15, ma_16, ms_16, ma_17, ms_17, ma_18, ms_18, ma_19, ms_19, ma_20, ms_20, ma_21, ms_21, ma_22, ms_22, ma_23, ms_23, ma_24, ms_24, ma_25, ms_25, ma_26, ms_26, ma_27, ms_27, ma_28, ms_28, ma_29, ms_29, ma_30, ms_30, ma_31, ms_31, ma_32, ms_32, ma_33, ms_33, ma_34, ms_34, ma_35, ms_35, ma_36, ms_36, ma_37, ms_37, ma_38, ms_38, ma_39, ms_39, ma_40, ms_40, ma_41, ms_41, ma_42, ms_42, ma_43, ms_43, if_true, if_false, Option.bind_some, cb, lt, nI_1, hs_nar2, nh4, upd_at, vau_at, ma_30_18, ms_30_18, ma_31_18, ms_31_18, ma_28_0, ms_28_0, ma_28_1, ms_28_1, ma_28_2, ms_28_2, ma_28_3, ms_28_3, ma_28_4, ms_28_4, ma_42_0, ms_42_0, ma_42_1, ms_42_1, ma_42_2, ms_42_2, ma_36_0, ms_36_0, hin]
      rw [decide_eq_false c, if_pos (show b2 false = 0 by decide)]
theorem ag_restore : Ag_I Rel fX11_restore fX12_restore := by
  intro σc σm a hR
  obtain ⟨F, A, B, Fc, Ac, Bc, rc, t, lv, T, u, w, ps, n7, sp, rfl, rfl, hT, hC⟩ := id hR
  obtain ⟨x, hx, rfl⟩ := iI_of a
  have e0 : (0 : Int32) = iI 0 := rfl
  have e2 : (2 : Int32) = iI 2 := rfl
  have hin : fX12_in (iI x) 0 2 (mkM F A B) = some (b2 (decide (0 ≤ x ∧ x ≤ 2)), mkM F A B) := by
    rw [e0, e2]
    exact m_in hx ⟨by decide, by decide⟩ ⟨by decide, by decide⟩ _
  have l0 := iI_lt0 hx
  have l3 : ((3 : Int32) ≤ iI x) ↔ 3 ≤ x := iI_le (a := 3) ⟨by decide, by decide⟩ hx
  unfold fX11_restore fX12_restore fX8_giveBack
  by_cases c : 0 ≤ x ∧ x ≤ 2
  · obtain ⟨s, hs, rfl⟩ := nat_of (n := 3) (x := x) (by omega)
    have es : iI (s : Int) = nI s := rfl
    have t7 := hC.t7
    have n0 : ¬ nI s < 0 := nI_pos (by omega)
    have n3 : ¬ (3 : Int32) ≤ nI s := fun q => by have := l3.1 q; omega
    rw [es] at hin ⊢
    obtain ⟨u1, u2, u3, u4, u5, u6, u7, u8, u9, u10⟩ := hC.c3
    obtain ⟨d1, d2, d3⟩ := hC.2.2.2.1 s hs
    rcases d2 with d2 | d2
    · have d1' : Ac 56 s = 0 := d1.symm.trans d2
      refine ⟨0, mkC Fc Ac Bc rc, mkM F A B, ?_, ?_, hR⟩
      · simp -implicitDefEqProofs (disch := first | assumption | omega | decide | exact And.intro (by omega) (by omega)) only [cck_0, cr0_0, cr0_1, cr0_2, cr0_3, cg0_4, cp0_4, cg0_5, cp0_5, cck_1, cg1_0, cp1_0, cr1_1, cr1_2, cr1_3, cg1_4, cp1_4, cg1_5, cp1_5, cr1_6, cr1_7, cck_2, cr2_0, cr2_1, cr2_2, cck_3, cr3_0, cr3_1, cg3_2, cp3_2, cg3_3, cp3_3, cg3_4, cp3_4, cg3_5, cp3_5, cg3_6, cp3_6, cg3_7, cp3_7, cg3_8, cp3_8, cck_4, cg4_0, cp4_0, cg4_1, cp4_1, cr4_2, cr4_3, cr4_4, cr4_5, cck_5, cg5_0, cp5_0, cr5_1, cr5_2, cr5_3, cck_6, cg6_0, cp6_0, cg6_1, cp6_1, cck_7, cg7_0, cp7_0, cg7_1, cp7_1, cr7_2, cr7_3, cr7_4, cr7_5, cr7_6, cr7_7, cr7_8, cck_8, cr8_0, cr8_1, cck_9, cr9_0, cr9_1, cr9_2, cr9_3, cg9_4, cp9_4, cck_10, cg10_0, cp10_0, cr10_1, cr10_2, cr10_3, cr10_4, cg10_5, cp10_5, cr10_6, cr10_7, cr10_8, cg10_9, cp10_9, cg10_10, cp10_10, cr10_11, cr10_12, cr10_13, cr10_14, cck_11, cr11_0, cg11_1, cp11_1, cr11_2, cr11_3, cr11_4, cr11_5, cr11_6, cr11_7, cr11_8, cr11_9, cr11_10, cr11_11, cr11_12, cr11_13, cr11_14, ca_30, cs_30, ca_31, cs_31, ca_32, cs_32, ca_33, cs_33, ca_34, cs_34, ca_35, cs_35, ca_36, cs_36, ca_37, cs_37, ca_38, cs_38, ca_39, cs_39, ca_40, cs_40, ca_41, cs_41, ca_42, cs_42, car_20, car_21, car_22, cq11_3, cq11_4, cq3_1, cq0_0, cq0_1, if_true, if_false, Option.bind_some, cb, lt, nI_1, hs_nar2, nh4, upd_at, vau_at, ca_42_0, cs_42_0, if_neg n0, if_neg n3, d1']
      · simp -implicitDefEqProofs (disch := first | assumption | omega | decide | exact And.intro (by omega) (by omega)) only [mck, mg_0, mp_0, mr_1, mg_2, mp_2, mr_3, mg_4, mp_4, mr_5, mr_6, mr_7, mr_8, mr_9, mg_10, mp_10, mg_11, mp_11, mg_12, mp_12, mg_13, mp_13, mg_14, mp_14, mg_15, mp_15, mg_16, mp_16, mg_17, mp_17, mg_18, mp_18, mg_19, mp_19, mg_20, mp_20, mr_21, mr_22, mr_23, mr_24, mr_25, mr_26, mr_27, mr_28, mr_29, mr_30, mr_31, mr_32, mg_33, mp_33, mr_34, mr_35, mr_36, mr_37, mr_38, mg_39, mp_39, mr_40, mr_41, mr_42, mg_43, mp_43, mr_44, mr_45, mg_46, mp_46, mr_47, mr_48, mg_49, mp_49, mg_50, mp_50, mg_51, mp_51, mr_52, mr_53, mr_54, mg_55, mp_55, mr_56, mr_57, mg_58, mp_58, mg_59, mp_59, mg_60, mp_60, mr_61, mg_62, mp_62, mr_63, mr_64, mr_65, mr_66, mr_67, mr_68, ma_1, ms_1, ma_2, ms_2, ma_3, ms_3, ma_4, ms_4, ma_5, ms_5, ma_6, ms_6, ma_7, ms_7, ma_8, ms_8, ma_9, ms_9, ma_10, ms_10, ma_11, ms_11, ma_12, ms_12, ma_13, ms_13, ma_14, ms_14, ma_15, ms_15, ma_16, ms_16, ma_17, ms_17, ma_18, ms_18, ma_19, ms_19, ma_20, ms_20, ma_21, ms_21, ma_22, ms_22, ma_23, ms_23, ma_24, ms_24, ma_25, ms_25, ma_26, ms_26, ma_27, ms_27, ma_28, ms_28, ma_29, ms_29, ma_30, ms_30, ma_31, ms_31, ma_32, ms_32, ma_33, ms_33, ma_34, ms_34, ma_35, ms_35, ma_36, ms_36, ma_37, ms_37, ma_38, ms_38, ma_39, ms_39, ma_40, ms_40, ma_41, ms_41, ma_42, ms_42, ma_43, ms_43, if_true, if_false, Option.bind_some, cb, lt, nI_1, hs_nar2, nh4, upd_at, vau_at, ma_30_18, ms_30_18, ma_31_18, ms_31_18, ma_28_0, ms_28_0, ma_28_1, ms_28_1, ma_28_2, ms_28_2, ma_28_3, ms_28_3, ma_28_4, ms_28_4, ma_42_0, ms_42_0, ma_42_1, ms_42_1, ma_42_2, ms_42_2, ma_36_0, ms_36_0, hin]
        rw [decide_eq_true c, if_neg (show ¬ b2 true = 0 by decide)]
        simp -implicitDefEqProofs (disch := first | assumption | omega | decide | exact And.intro (by omega) (by omega)) only [mck, mg_0, mp_0, mr_1, mg_2, mp_2, mr_3, mg_4, mp_4, mr_5, mr_6, mr_7, mr_8, mr_9, mg_10, mp_10, mg_11, mp_11, mg_12, mp_12, mg_13, mp_13, mg_14, mp_14, mg_15, mp_15, mg_16, mp_16, mg_17, mp_17, mg_18, mp_18, mg_19, mp_19, mg_20, mp_20, mr_21, mr_22, mr_23, mr_24, mr_25, mr_26, mr_27, mr_28, mr_29, mr_30, mr_31, mr_32, mg_33, mp_33, mr_34, mr_35, mr_36, mr_37, mr_38, mg_39, mp_39, mr_40, mr_41, mr_42, mg_43, mp_43, mr_44, mr_45, mg_46, mp_46, mr_47, mr_48, mg_49, mp_49, mg_50, mp_50, mg_51, mp_51, mr_52, mr_53, mr_54, mg_55, mp_55, mr_56, mr_57, mg_58, mp_58, mg_59, mp_59, mg_60, mp_60, mr_61, mg_62, mp_62, mr_63, mr_64, mr_65, mr_66, mr_67, mr_68, ma_1, ms_1, ma_2, ms_2, ma_3, ms_3, ma_4, ms_4, ma_5, ms_5, ma_6, ms_6, ma_7, ms_7, ma_8, ms_8, ma_9, ms_9, ma_10, ms_10, ma_11, ms_11, ma_12, ms_12, ma_13, ms_13, ma_14, ms_14, ma_15, ms_15, ma_16, ms_16, ma_17, ms_17, ma_18, ms_18, ma_19, ms_19, ma_20, ms_20, ma_21, ms_21, ma_22, ms_22, ma_23, ms_23, ma_24, ms_24, ma_25, ms_25, ma_26, ms_26, ma_27, ms_27, ma_28, ms_28, ma_29, ms_29, ma_30, ms_30, ma_31, ms_31, ma_32, ms_32, ma_33, ms_33, ma_34, ms_34, ma_35, ms_35, ma_36, ms_36, ma_37, ms_37, ma_38, ms_38, ma_39, ms_39, ma_40, ms_40, ma_41, ms_41, ma_42, ms_42, ma_43, ms_43, if_true, if_false, Option.bind_some, cb, lt, nI_1, hs_nar2, nh4, upd_at, vau_at, ma_30_18, ms_30_18, ma_31_18, ms_31_18, ma_28_0, ms_28_0, ma_28_1, ms_28_1, ma_28_2, ms_28_2, ma_28_3, ms_28_3, ma_28_4, ms_28_4, ma_42_0, ms_42_0, ma_42_1, ms_42_1, ma_42_2, ms_42_2, ma_36_0, ms_36_0, d2]
    · have d1' : Ac 56 s = 1 := d1.symm.trans d2
      have n10 : ¬ (1 : Int32) = 0 := by decide
      obtain ⟨P, z1, z2, z3⟩ := d3 d2
      obtain ⟨Fc1, Ac1, q1, q2, q3⟩ := c_copyFrom (F := Fc) (A := Ac) Bc rc (PA_of (Or.inl rfl)) (PA_slot hs) (Or.inl (by omega)) z3 z1.1 (z1.lt6 hC.2.1.1) z1.2.2.2.2
      have m1 := m_cp10 (F := F) (A := A) (B := B) hs 20 0 FU (by omega) (by decide)
      rw [cpA_0, vau_id] at m1
      have h6 := z1.1
      refine ⟨1, mkC (va_up Fc1 49 (upd (Fc1 49) 0 0)) Ac1 Bc rc, mkM (upd F 55 0) (va_up A 30 (cpA (A 30) (A 43) 0 (20 * s) 20)) B, ?_, ?_, rel_of (t := t) (lv := lv) (T := T) (u := 0) (w := w) (ps := fun _ => P) (n7 := n7) (sp := sp) (hT.eq rfl (vau_ne (by decide)) (by rw [vau_ne (by decide), q3.1 0 (by decide)]) (q3.2 1 (by decide) (by decide) (by decide))) (hC.set3 ⟨rfl, rfl, rfl⟩ (fun c _ h1 _ => vau_ne h1) rfl ⟨by rw [vau_ne (by decide), q3.1 37 (by decide)], by rw [vau_ne (by decide), q3.1 69 (by decide)], fun c _ h1 h2 => by rw [vau_ne h2, q3.1 c h1]⟩ (fun c _ h1 h2 => q3.2 c (by omega) (by omega) (by omega)) ⟨rfl, rfl, rfl⟩ ⟨by omega, u2, rfl, by rw [vau_at]; exact upd_at _ _ _, by rw [vau_at, upd_ne (by decide), q3.1 49 (by decide)]; exact u5, fun _ _ => z1, fun j hj => absurd hj (Nat.not_lt_zero j), ?_, q2.eq (vau_ne (by decide)) rfl rfl rfl, fun j hj => absurd hj (Nat.not_lt_zero j)⟩)⟩
      · simp -implicitDefEqProofs (disch := first | assumption | omega | decide | exact And.intro (by omega) (by omega)) only [cck_0, cr0_0, cr0_1, cr0_2, cr0_3, cg0_4, cp0_4, cg0_5, cp0_5, cck_1, cg1_0, cp1_0, cr1_1, cr1_2, cr1_3, cg1_4, cp1_4, cg1_5, cp1_5, cr1_6, cr1_7, cck_2, cr2_0, cr2_1, cr2_2, cck_3, cr3_0, cr3_1, cg3_2, cp3_2, cg3_3, cp3_3, cg3_4, cp3_4, cg3_5, cp3_5, cg3_6, cp3_6, cg3_7, cp3_7, cg3_8, cp3_8, cck_4, cg4_0, cp4_0, cg4_1, cp4_1, cr4_2, cr4_3, cr4_4, cr4_5, cck_5, cg5_0, cp5_0, cr5_1, cr5_2, cr5_3, cck_6, cg6_0, cp6_0, cg6_1, cp6_1, cck_7, cg7_0, cp7_0, cg7_1, cp7_1, cr7_2, cr7_3, cr7_4, cr7_5, cr7_6, cr7_7, cr7_8, cck_8, cr8_0, cr8_1, cck_9, cr9_0, cr9_1, cr9_2, cr9_3, cg9_4, cp9_4, cck_10, cg10_0, cp10_0, cr10_1, cr10_2, cr10_3, cr10_4, cg10_5, cp10_5, cr10_6, cr10_7, cr10_8, cg10_9, cp10_9, cg10_10, cp10_10, cr10_11, cr10_12, cr10_13, cr10_14, cck_11, cr11_0, cg11_1, cp11_1, cr11_2, cr11_3, cr11_4, cr11_5, cr11_6, cr11_7, cr11_8, cr11_9, cr11_10, cr11_11, cr11_12, cr11_13, cr11_14, ca_30, cs_30, ca_31, cs_31, ca_32, cs_32, ca_33, cs_33, ca_34, cs_34, ca_35, cs_35, ca_36, cs_36, ca_37, cs_37, ca_38, cs_38, ca_39, cs_39, ca_40, cs_40, ca_41, cs_41, ca_42, cs_42, car_20, car_21, car_22, cq11_3, cq11_4, cq3_1, cq0_0, cq0_1, if_true, if_false, Option.bind_some, cb, lt, nI_1, hs_nar2, nh4, upd_at, vau_at, ca_42_0, cs_42_0, if_neg n0, if_neg n3, d1', if_neg n10, q1]
      · simp -implicitDefEqProofs (disch := first | assumption | omega | decide | exact And.intro (by omega) (by omega)) only [mck, mg_0, mp_0, mr_1, mg_2, mp_2, mr_3, mg_4, mp_4, mr_5, mr_6, mr_7, mr_8, mr_9, mg_10, mp_10, mg_11, mp_11, mg_12, mp_12, mg_13, mp_13, mg_14, mp_14, mg_15, mp_15, mg_16, mp_16, mg_17, mp_17, mg_18, mp_18, mg_19, mp_19, mg_20, mp_20, mr_21, mr_22, mr_23, mr_24, mr_25, mr_26, mr_27, mr_28, mr_29, mr_30, mr_31, mr_32, mg_33, mp_33, mr_34, mr_35, mr_36, mr_37, mr_38, mg_39, mp_39, mr_40, mr_41, mr_42, mg_43, mp_43, mr_44, mr_45, mg_46, mp_46, mr_47, mr_48, mg_49, mp_49, mg_50, mp_50, mg_51, mp_51, mr_52, mr_53, mr_54, mg_55, mp_55, mr_56, mr_57, mg_58, mp_58, mg_59, mp_59, mg_60, mp_60, mr_61, mg_62, mp_62, mr_63, mr_64, mr_65, mr_66, mr_67, mr_68, ma_1, ms_1, ma_2, ms_2, ma_3, ms_3, ma_4, ms_4, ma_5, ms_5, ma_6, ms_6, ma_7, ms_7, ma_8, ms_8, ma_9, ms_9, ma_10, ms_10, ma_11, ms_11, ma_12, ms_12, ma_13, ms_13, ma_14, ms_14, ma_15, ms_15, ma_16, ms_16, ma_17, ms_17, ma_18, ms_18, ma_19, ms_19, ma_20, ms_20, ma_21, ms_21, ma_22, ms_22, ma_23, ms_23, ma_24, ms_24, ma_25, ms_25, ma_26, ms_26, ma_27, ms_27, ma_28, ms_28, ma_29, ms_29, ma_30, ms_30, ma_31, ms_31, ma_32, ms_32, ma_33, ms_33, ma_34, ms_34, ma_35, ms_35, ma_36, ms_36, ma_37, ms_37, ma_38, ms_38, ma_39, ms_39, ma_40, ms_40, ma_41, ms_41, ma_42, ms_42, ma_43, ms_43, if_true, if_false, Option.bind_some, cb, lt, nI_1, hs_nar2, nh4, upd_at, vau_at, ma_30_18, ms_30_18, ma_31_18, ms_31_18, ma_28_0, ms_28_0, ma_28_1, ms_28_1, ma_28_2, ms_28_2, ma_28_3, ms_28_3, ma_28_4, ms_28_4, ma_42_0, ms_42_0, ma_42_1, ms_42_1, ma_42_2, ms_42_2, ma_36_0, ms_36_0, hin]
        rw [decide_eq_true c, if_neg (show ¬ b2 true = 0 by decide)]
        simp -implicitDefEqProofs (disch := first | assumption | omega | decide | exact And.intro (by omega) (by omega)) only [mck, mg_0, mp_0, mr_1, mg_2, mp_2, mr_3, mg_4, mp_4, mr_5, mr_6, mr_7, mr_8, mr_9, mg_10, mp_10, mg_11, mp_11, mg_12, mp_12, mg_13, mp_13, mg_14, mp_14, mg_15, mp_15, mg_16, mp_16, mg_17, mp_17, mg_18, mp_18, mg_19, mp_19, mg_20, mp_20, mr_21, mr_22, mr_23, mr_24, mr_25, mr_26, mr_27, mr_28, mr_29, mr_30, mr_31, mr_32, mg_33, mp_33, mr_34, mr_35, mr_36, mr_37, mr_38, mg_39, mp_39, mr_40, mr_41, mr_42, mg_43, mp_43, mr_44, mr_45, mg_46, mp_46, mr_47, mr_48, mg_49, mp_49, mg_50, mp_50, mg_51, mp_51, mr_52, mr_53, mr_54, mg_55, mp_55, mr_56, mr_57, mg_58, mp_58, mg_59, mp_59, mg_60, mp_60, mr_61, mg_62, mp_62, mr_63, mr_64, mr_65, mr_66, mr_67, mr_68, ma_1, ms_1, ma_2, ms_2, ma_3, ms_3, ma_4, ms_4, ma_5, ms_5, ma_6, ms_6, ma_7, ms_7, ma_8, ms_8, ma_9, ms_9, ma_10, ms_10, ma_11, ms_11, ma_12, ms_12, ma_13, ms_13, ma_14, ms_14, ma_15, ms_15, ma_16, ms_16, ma_17, ms_17, ma_18, ms_18, ma_19, ms_19, ma_20, ms_20, ma_21, ms_21, ma_22, ms_22, ma_23, ms_23, ma_24, ms_24, ma_25, ms_25, ma_26, ms_26, ma_27, ms_27, ma_28, ms_28, ma_29, ms_29, ma_30, ms_30, ma_31, ms_31, ma_32, ms_32, ma_33, ms_33, ma_34, ms_34, ma_35, ms_35, ma_36, ms_36, ma_37, ms_37, ma_38, ms_38, ma_39, ms_39, ma_40, ms_40, ma_41, ms_41, ma_42, ms_42, ma_43, ms_43, if_true, if_false, Option.bind_some, cb, lt, nI_1, hs_nar2, nh4, upd_at, vau_at, ma_30_18, ms_30_18, ma_31_18, ms_31_18, ma_28_0, ms_28_0, ma_28_1, ms_28_1, ma_28_2, ms_28_2, ma_28_3, ms_28_3, ma_28_4, ms_28_4, ma_42_0, ms_42_0, ma_42_1, ms_42_1, ma_42_2, ms_42_2, ma_36_0, ms_36_0, d2, if_neg n10]
        rw [show (0 : Int32) = nI 0 from rfl] at m1 ⊢
        rw [m1]
      · unfold MPile
        rw [vau_at]
        have q : ∀ k, k < 20 → cpA (A 30) (A 43) 0 (20 * s) 20 (0 + k) = A 43 (20 * s + k) := fun k hk => cpA_in hk
        refine ⟨by rw [q 18 (by omega)]; exact z2.1, fun i hi => ?_⟩
        have hi2 : i < P.1 := hi
        rw [q i (by omega), Nat.add_assoc, q (6 + i) (by omega), Nat.add_assoc, q (12 + i) (by omega)]
        have := z2.2 i hi2
        simpa only [Nat.add_assoc] using this
  · refine ⟨0, mkC Fc Ac Bc rc, mkM F A B, ?_, ?_, hR⟩
    · simp -implicitDefEqProofs (disch := first | assumption | omega | decide | exact And.intro (by omega) (by omega)) only [cck_0, cr0_0, cr0_1, cr0_2, cr0_3, cg0_4, cp0_4, cg0_5, cp0_5, cck_1, cg1_0, cp1_0, cr1_1, cr1_2, cr1_3, cg1_4, cp1_4, cg1_5, cp1_5, cr1_6, cr1_7, cck_2, cr2_0, cr2_1, cr2_2, cck_3, cr3_0, cr3_1, cg3_2, cp3_2, cg3_3, cp3_3, cg3_4, cp3_4, cg3_5, cp3_5, cg3_6, cp3_6, cg3_7, cp3_7, cg3_8, cp3_8, cck_4, cg4_0, cp4_0, cg4_1, cp4_1, cr4_2, cr4_3, cr4_4, cr4_5, cck_5, cg5_0, cp5_0, cr5_1, cr5_2, cr5_3, cck_6, cg6_0, cp6_0, cg6_1, cp6_1, cck_7, cg7_0, cp7_0, cg7_1, cp7_1, cr7_2, cr7_3, cr7_4, cr7_5, cr7_6, cr7_7, cr7_8, cck_8, cr8_0, cr8_1, cck_9, cr9_0, cr9_1, cr9_2, cr9_3, cg9_4, cp9_4, cck_10, cg10_0, cp10_0, cr10_1, cr10_2, cr10_3, cr10_4, cg10_5, cp10_5, cr10_6, cr10_7, cr10_8, cg10_9, cp10_9, cg10_10, cp10_10, cr10_11, cr10_12, cr10_13, cr10_14, cck_11, cr11_0, cg11_1, cp11_1, cr11_2, cr11_3, cr11_4, cr11_5, cr11_6, cr11_7, cr11_8, cr11_9, cr11_10, cr11_11, cr11_12, cr11_13, cr11_14, ca_30, cs_30, ca_31, cs_31, ca_32, cs_32, ca_33, cs_33, ca_34, cs_34, ca_35, cs_35, ca_36, cs_36, ca_37, cs_37, ca_38, cs_38, ca_39, cs_39, ca_40, cs_40, ca_41, cs_41, ca_42, cs_42, car_20, car_21, car_22, cq11_3, cq11_4, cq3_1, cq0_0, cq0_1, if_true, if_false, Option.bind_some, cb, lt, nI_1, hs_nar2, nh4, upd_at, vau_at, ca_42_0, cs_42_0]
      by_cases c1 : x < 0
      · rw [if_pos (l0.2 c1)]; rfl
      · rw [if_neg (fun q => c1 (l0.1 q)), if_pos (l3.2 (by omega))]; rfl
    · simp -implicitDefEqProofs (disch := first | assumption | omega | decide | exact And.intro (by omega) (by omega)) only [mck, mg_0, mp_0, mr_1, mg_2, mp_2, mr_3, mg_4, mp_4, mr_5, mr_6, mr_7, mr_8, mr_9, mg_10, mp_10, mg_11, mp_11, mg_12, mp_12, mg_13, mp_13, mg_14, mp_14, mg_15, mp_15, mg_16, mp_16, mg_17, mp_17, mg_18, mp_18, mg_19, mp_19, mg_20, mp_20, mr_21, mr_22, mr_23, mr_24, mr_25, mr_26, mr_27, mr_28, mr_29, mr_30, mr_31, mr_32, mg_33, mp_33, mr_34, mr_35, mr_36, mr_37, mr_38, mg_39, mp_39, mr_40, mr_41, mr_42, mg_43, mp_43, mr_44, mr_45, mg_46, mp_46, mr_47, mr_48, mg_49, mp_49, mg_50, mp_50, mg_51, mp_51, mr_52, mr_53, mr_54, mg_55, mp_55, mr_56, mr_57, mg_58, mp_58, mg_59, mp_59, mg_60, mp_60, mr_61, mg_62, mp_62, mr_63, mr_64, mr_65, mr_66, mr_67, mr_68, ma_1, ms_1, ma_2, ms_2, ma_3, ms_3, ma_4, ms_4, ma_5, ms_5, ma_6, ms_6, ma_7, ms_7, ma_8, ms_8, ma_9, ms_9, ma_10, ms_10, ma_11, ms_11, ma_12, ms_12, ma_13, ms_13, ma_14, ms_14, ma_15, ms_15, ma_16, ms_16, ma_17, ms_17, ma_18, ms_18, ma_19, ms_19, ma_20, ms_20, ma_21, ms_21, ma_22, ms_22, ma_23, ms_23, ma_24, ms_24, ma_25, ms_25, ma_26, ms_26, ma_27, ms_27, ma_28, ms_28, ma_29, ms_29, ma_30, ms_30, ma_31, ms_31, ma_32, ms_32, ma_33, ms_33, ma_34, ms_34, ma_35, ms_35, ma_36, ms_36, ma_37, ms_37, ma_38, ms_38, ma_39, ms_39, ma_40, ms_40, ma_41, ms_41, ma_42, ms_42, ma_43, ms_43, if_true, if_false, Option.bind_some, cb, lt, nI_1, hs_nar2, nh4, upd_at, vau_at, ma_30_18, ms_30_18, ma_31_18, ms_31_18, ma_28_0, ms_28_0, ma_28_1, ms_28_1, ma_28_2, ms_28_2, ma_28_3, ms_28_3, ma_28_4, ms_28_4, ma_42_0, ms_42_0, ma_42_1, ms_42_1, ma_42_2, ms_42_2, ma_36_0, ms_36_0, hin]
      rw [decide_eq_false c, if_pos (show b2 false = 0 by decide)]
