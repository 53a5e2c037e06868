/-! ===== a pile is told ===== -/
section P99
variable {d sd M : Nat} {K V : Nat → Nat} {NM : Nat → List Nat} {PL : Nat → Nat} {r : Nat → Nat} {Fc Ac : Nat → Nat → Int32} {Bc : Nat → Nat → Int64} {F : Nat → Int32} {A : Nat → Nat → Int32} {B : Nat → Nat → Int64} {t : Nat}
theorem t_pile (hd : d = 7 ∨ d = 22) (hr : r 2 = d) (h : Rd d sd M K V NM PL Fc Ac Bc F A B t) (e : K t = 3) : Tells d sd M K V NM PL r (fX3_tellPile 37) (fX12_tell 0) Fc Ac Bc F A B t := by
  obtain ⟨⟨ht, tk, hcp, hmp⟩, sl, sp, nb, nf, nc, cc, cm, br, g, hP, hT⟩ := h
  have hK := tk.tk
  obtain ⟨ck, mtk⟩ := tk.cm
  have hM := hK.1
  obtain ⟨⟨p12, p19, psd⟩, ⟨s5, csl, msl, spl, sp0⟩, ⟨p5, p6, p7, p8, p9⟩, ⟨q1, q2, q3⟩, ⟨q4, q5, q6⟩, ⟨q7, q8⟩, ⟨u1, u2, u3⟩, ⟨u4, u5, u6⟩, ⟨v1, v2, v3⟩, v4, v5, v6⟩ := id hP
  obtain ⟨y, y1, y2, y3⟩ := hmp.2.1
  rw [y3 rfl] at y2
  have ht403 : t < 403 := by omega
  have k3 : A 3 t = (23 : Int32) := by rw [(mtk t ht).1, e]; rfl
  have sd2 : sd < 2 := by omega
  have d37 : ¬ d = 37 := by omega
  have e37 : ¬ (37 : Nat) = d + 11 := by omega
  have dd11 : ¬ d = d + 11 := by omega
  obtain ⟨k0, kk1, kk2, kk3, kk4, kk5, kk6, kk7, kk8, kk9, kk10, kp⟩ := TA_of hd
  have kp0 := kp.1
  obtain ⟨⟨l1, l2, l3⟩, l4⟩ := stp_ok hK (k := 3) (s := (0, t)) (by decide) ht (Nat.zero_le _)
  obtain ⟨F1, x1, a1, a2, a3, a4, a5⟩ := c_stp (Bc := Bc) (r := r) hK (k := 3) (s := (0, t)) ht hcp ck (by decide) (by decide)
  obtain ⟨G1, g1, g2, g3⟩ := m_go (B := B) hK ht hmp mtk e (by decide)
  have a1' : fX3_take 37 3 (mkC Fc Ac Bc r) = some (x1, mkC F1 Ac Bc r) := a1
  have hr2 : gR (mkC F1 Ac Bc r) 3 37 1 = some d := by rw [cr3_1 rfl, hr]
  generalize hF2 : va_up F1 (d + 11) (upd (F1 (d + 11)) 0 0) = F2
  have f2o : ∀ c, ¬ c = d + 11 → F2 c = F1 c := fun c hc => by rw [← hF2, vau_ne hc]
  have f20 : F2 (d + 11) 0 = nI 0 := by rw [← hF2, vau_at, upd_at]; rfl
  have crun : fX3_tellPile 37 (mkC Fc Ac Bc r) = fX3_tellPile_b19 FU 37 (nI 0) (mkC F2 Ac Bc r) := by
    unfold fX3_tellPile
    simp -implicitDefEqProofs (disch := first | assumption | omega | decide | exact And.intro (by omega) (by omega)) only [cck_0, cr0_0, cr0_1, cr0_2, cr0_3, cg0_4, cp0_4, cg0_5, cp0_5, cck_1, cg1_0, cp1_0, cr1_1, cr1_2, cr1_3, cg1_4, cp1_4, cg1_5, cp1_5, cr1_6, cr1_7, cck_2, cr2_0, cr2_1, cr2_2, cck_3, cr3_0, cr3_1, cg3_2, cp3_2, cg3_3, cp3_3, cg3_4, cp3_4, cg3_5, cp3_5, cg3_6, cp3_6, cg3_7, cp3_7, cg3_8, cp3_8, cck_4, cg4_0, cp4_0, cg4_1, cp4_1, cr4_2, cr4_3, cr4_4, cr4_5, cck_5, cg5_0, cp5_0, cr5_1, cr5_2, cr5_3, cck_6, cg6_0, cp6_0, cg6_1, cp6_1, cck_7, cg7_0, cp7_0, cg7_1, cp7_1, cr7_2, cr7_3, cr7_4, cr7_5, cr7_6, cr7_7, cr7_8, cck_8, cr8_0, cr8_1, cck_9, cr9_0, cr9_1, cr9_2, cr9_3, cg9_4, cp9_4, cck_10, cg10_0, cp10_0, cr10_1, cr10_2, cr10_3, cr10_4, cg10_5, cp10_5, cr10_6, cr10_7, cr10_8, cg10_9, cp10_9, cg10_10, cp10_10, cr10_11, cr10_12, cr10_13, cr10_14, cck_11, cr11_0, cg11_1, cp11_1, cr11_2, cr11_3, cr11_4, cr11_5, cr11_6, cr11_7, cr11_8, cr11_9, cr11_10, cr11_11, cr11_12, cr11_13, cr11_14, ca_30, cs_30, ca_31, cs_31, ca_32, cs_32, ca_33, cs_33, ca_34, cs_34, ca_35, cs_35, ca_36, cs_36, ca_37, cs_37, ca_38, cs_38, ca_39, cs_39, ca_40, cs_40, ca_41, cs_41, ca_42, cs_42, car_20, car_21, car_22, cq11_3, cq11_4, cq3_1, cq0_0, cq0_1, if_true, if_false, Option.bind_some, cb_e, lt_e, nI_1, hs_nar2, nh4, upd_at, vau_at, ca_42_0, cs_42_0, a1', hr2, hF2]
    rfl
  have mrun : ∀ s, fX12_tellPile_b4 FU 0 (nI 0) (nI 0) (mkM G1 A B) = some ((), s) → fX12_tell 0 (mkM F A B) = some ((), s) := fun s hs => by
    have hs' : fX12_tellPile_b4 FU 0 0 0 (mkM G1 A B) = some ((), s) := hs
    unfold fX12_tell fX12_tellPile
    rw [mck, mr_5, Option.bind_some, mg_11, Option.bind_some, y2, ma_3 _ _ _ ht403, Option.bind_some, k3, if_neg (show ¬ (23 : Int32) = 20 by decide), if_neg (show ¬ (23 : Int32) = 21 by decide), if_neg (show ¬ (23 : Int32) = 22 by decide), if_pos rfl]
    simp -implicitDefEqProofs (disch := first | assumption | omega | decide | exact And.intro (by omega) (by omega)) only [mck, mg_0, mp_0, mr_1, mg_2, mp_2, mr_3, mg_4, mp_4, mr_5, mr_6, mr_7, mr_8, mr_9, mg_10, mp_10, mg_11, mp_11, mg_12, mp_12, mg_13, mp_13, mg_14, mp_14, mg_15, mp_15, mg_16, mp_16, mg_17, mp_17, mg_18, mp_18, mg_19, mp_19, mg_20, mp_20, mr_21, mr_22, mr_23, mr_24, mr_25, mr_26, mr_27, mr_28, mr_29, mr_30, mr_31, mr_32, mg_33, mp_33, mr_34, mr_35, mr_36, mr_37, mr_38, mg_39, mp_39, mr_40, mr_41, mr_42, mg_43, mp_43, mr_44, mr_45, mg_46, mp_46, mr_47, mr_48, mg_49, mp_49, mg_50, mp_50, mg_51, mp_51, mr_52, mr_53, mr_54, mg_55, mp_55, mr_56, mr_57, mg_58, mp_58, mg_59, mp_59, mg_60, mp_60, mr_61, mg_62, mp_62, mr_63, mr_64, mr_65, mr_66, mr_67, mr_68, ma_1, ms_1, ma_2, ms_2, ma_3, ms_3, ma_4, ms_4, ma_5, ms_5, ma_6, ms_6, ma_7, ms_7, ma_8, ms_8, ma_9, ms_9, ma_10, ms_10, ma_11, ms_11, ma_12, ms_12, ma_13, ms_13, ma_14, ms_14, ma_15, ms_15, ma_16, ms_16, ma_17, ms_17, ma_18, ms_18, ma_19, ms_19, ma_20, ms_20, ma_21, ms_21, ma_22, ms_22, ma_23, ms_23, ma_24, ms_24, ma_25, ms_25, ma_26, ms_26, ma_27, ms_27, ma_28, ms_28, ma_29, ms_29, ma_30, ms_30, ma_31, ms_31, ma_32, ms_32, ma_33, ms_33, ma_34, ms_34, ma_35, ms_35, ma_36, ms_36, ma_37, ms_37, ma_38, ms_38, ma_39, ms_39, ma_40, ms_40, ma_41, ms_41, ma_42, ms_42, ma_43, ms_43, if_true, if_false, Option.bind_some, cb_e, lt_e, nI_1, hs_nar2, nh4, upd_at, vau_at, ma_30_18, ms_30_18, ma_31_18, ms_31_18, ma_28_0, ms_28_0, ma_28_1, ms_28_1, ma_28_2, ms_28_2, ma_28_3, ms_28_3, ma_28_4, ms_28_4, ma_42_0, ms_42_0, ma_42_1, ms_42_1, ma_42_2, ms_42_2, ma_36_0, ms_36_0, g1, hs']
  have cp2 : CPo F2 PL (stp K 3 (0, t)).1 (stp K 3 (0, t)).2 := by
    unfold CPo at a2 ⊢
    rw [f2o 37 e37]
    exact a2
  have fo2 : ∀ c, ¬ c = 37 → ¬ c = d + 11 → F2 c = Fc c := fun c z1 z2 => by rw [f2o c z2, a3 c z1]
  have fk2 : ∀ k, ¬ k = 2 → ¬ k = 3 → ¬ k = 4 → F2 37 k = Fc 37 k := fun k z1 z2 z3 => by rw [f2o 37 e37, a4 k z1 z2 z3]
  obtain ⟨Q, hQ⟩ : ∃ q, FU = q + 1 := ⟨FU - 1, by unfold FU; omega⟩
  by_cases cz : (stp K 3 (0, t)).1 = 0
  · obtain ⟨_, ez, _, t4⟩ := l4 cz
    have es : stp K 3 (0, t) = (0, t + 1) := Prod.ext cz ez
    rw [es] at cp2 g2 l2
    have l2' : t + 1 ≤ M := l2
    have hpl : ∀ a, a ≤ M → PL a ≤ 2000 := fun a ha => (tk.2.1 a ha).2.2.2.1
    have mo : ∀ a b, a < b → b ≤ M → PL a < PL b := fun a b hab hb => tk.lt b a hab hb
    have splt : ¬ sl = 0 → sp < PL (t + 1) := fun q => Nat.lt_of_lt_of_le (spl q).2.2 (tk.le (by omega) l2')
    have fu1 : M < FU := by unfold FU; omega
    obtain ⟨Fc', Ac', F', A', fa, t', r1, r2, ⟨r3, r4⟩, r5, r6, r7, r8, r9, r10, r11, r12⟩ := pile_go (NM := NM) (V := V) (PL := PL) (r := r) (Bc := Bc) (B := B) (nb := nb) (nc := nc) (g := g) hd hr psd hK (fun j hj q => ⟨((tk.2.1 j hj).2.2.2.2.2 q).1, ((tk.2.1 j hj).2.2.2.2.2 q).2.2⟩) (fun j hj q => ⟨((tk.2.1 j hj).2.2.2.2.2 q).2.1, ((tk.2.1 j hj).2.2.2.2.2 q).2.2⟩) mo hpl (by omega) p5 (fun i hi => ⟨q6 i hi, (p9 i (by omega)).2⟩) p9 M (t + 1) 0 0 0 FU FU (sl, sp) (nI 0) (0, fun _ => 0, fun _ => 0, fun _ => 0) 0 F2 Ac G1 A (by omega) l2' (by omega) (by omega) fu1 fu1 cp2 ck g2 mtk (SlC.eq (F := Fc) ⟨s5, csl, fun q => (spl q).1, sp0⟩ fk2) (SlM.eq (F := F) ⟨s5, msl, fun q => (spl q).2.1⟩ g3) splt (by rw [fo2 d d37 dd11]; exact q5) (by rw [g3 19 (by decide) (by decide) (by decide)]; exact p19) (by rw [g3 20 (by decide) (by decide) (by decide)]; exact p8) ⟨by omega, f20⟩ (fun w0 => by
      obtain ⟨T, lw, P, ⟨t1, _⟩, _⟩ := hT w0
      refine ⟨t1, ⟨⟨f20, fun i hi => absurd hi (Nat.not_lt_zero i)⟩, Nat.zero_le _, fun i hi => absurd hi (Nat.not_lt_zero i), fun i j hi => absurd hi (Nat.not_lt_zero i), fun i hi => absurd hi (Nat.not_lt_zero i), fun i hi => absurd hi (Nat.not_lt_zero i)⟩, rfl, fun i hi => absurd hi (Nat.not_lt_zero i), ⟨rfl, by decide⟩, fun b hb => ⟨fun z => absurd z (by rw [Nat.zero_div]; decide), fun ⟨i, hi, _⟩ => absurd hi (Nat.not_lt_zero i)⟩⟩)
    have foF : ∀ k, ¬ (11 ≤ k ∧ k ≤ 16) → F' k = F k := fun k q => by rw [r8 k q, g3 k (by omega) (by omega) (by omega)]
    have foC : ∀ c, ¬ c = 37 → ¬ c = d + 11 → Fc' c = Fc c := fun c z1 z2 => by rw [r5 c z1 z2, fo2 c z1 z2]
    have mfm : MFm sd F F' A A' B B := by
      refine ⟨fun k z1 _ _ _ _ => foF k z1, fun a j z => ?_, fun _ _ => rfl⟩
      by_cases a17 : a = 17
      · subst a17
        exact r11 j (fun q => z (Or.inr (Or.inr (Or.inl ⟨rfl, q⟩))))
      · rw [r10 a a17]
    have cfm : CFm d Fc Fc' Ac Ac' Bc Bc := ⟨fun c z1 _ z3 => foC c z1 z3, fun c z => r7 c (by omega) (by omega) (by omega), fun _ _ => rfl⟩
    refine ⟨Fc', Ac', Bc, F', A', B, fa, t', crun.trans r1, mrun _ r2, cfm, mfm, fun fz => ?_, fun _ => ⟨r3, r4⟩⟩
    obtain ⟨⟨o1, o2⟩, ⟨q', o3, o3'⟩, w', ⟨o4, o5, o6⟩, o7⟩ := r12 fz
    rw [fz] at r3 r4
    have lt1 : t < t' := by omega
    have leC : cc ≤ t' := by omega
    have leM : cm ≤ 420 * sd + t' := by omega
    have leB : 4 * br ≤ 520 * sd + t' := by omega
    have c37 : ∀ k, ¬ (2 ≤ k ∧ k ≤ 6) → Fc' 37 k = Fc 37 k := fun k z => by rw [r6 k z, fk2 k (by omega) (by omega) (by omega)]
    have f12 : F' 12 = 0 := by rw [r9, g3 12 (by decide) (by decide) (by decide)]; exact p12
    have Fd : Fc' d = Fc d := foC d d37 dd11
    refine ⟨lt1, ⟨o2, tk.fm hd cfm mfm, r3, r4⟩, w'.1, w'.2, nb, nf, nc, cc, cm, br, g, ⟨⟨f12, by rw [foF 19 (by decide)]; exact p19, psd⟩, ⟨o4.1, o4.2.1, o5.2.1, fun q => ⟨o4.2.2.1 q, o5.2.2 q, o6 q⟩, o4.2.2.2⟩, ⟨p5, by rw [c37 7 (by decide)]; exact p6, by rw [r10 9 (by decide)]; exact p7, by rw [foF 20 (by decide)]; exact p8, p9⟩, ⟨q1, by rw [c37 8 (by decide)]; exact q2, by rw [r10 13 (by decide)]; exact q3⟩, ⟨q4, by rw [Fd]; exact q5, q6⟩, ⟨by rw [Fd]; exact q7, leC⟩, ⟨by rw [foF 39 (by decide)]; exact u1, u2, leM⟩, ⟨by rw [foF 33 (by decide)]; exact u4, u5, leB⟩, ⟨v1, v2, by rw [Fd]; exact v3⟩, q', o3, o3'⟩, fun w0 => ?_⟩
    obtain ⟨sl0, P', n1, n2, n3⟩ := o7 w0
    obtain ⟨T, lw, P, ⟨t1, t2, t3, t4, t5⟩, t6, t7, ⟨t8, t9, t10⟩, _, t14, t15⟩ := hT sl0
    have ac : ∀ c, ¬ c = d + 12 → ¬ c = d + 13 → ¬ c = d + 14 → Ac' c = Ac c := r7
    have a2' := ac (d + 2) (by omega) (by omega) (by omega)
    have a3' := ac (d + 3) (by omega) (by omega) (by omega)
    have a4' := ac (d + 4) (by omega) (by omega) (by omega)
    have a5' := ac (d + 5) (by omega) (by omega) (by omega)
    have a6' := ac (d + 6) (by omega) (by omega) (by omega)
    have a8' := ac (d + 8) (by omega) (by omega) (by omega)
    have a9' := ac (d + 9) (by omega) (by omega) (by omega)
    have a10' := ac (d + 10) (by omega) (by omega) (by omega)
    refine ⟨T, lw, P', ⟨t1, t2, t3, t4, t5⟩, ?_, ⟨by rw [Fd]; exact t7.1, by rw [r10 12 (by decide)]; exact t7.2⟩, ⟨by rw [Fd]; exact t8, ?_, ?_⟩, ⟨n1, n2, by rw [← t1]; exact n3⟩, ?_, ?_⟩
    · rw [a2', a3', r10 10 (by decide), r10 11 (by decide)]
      exact t6
    · rw [a8', r10 14 (by decide), r10 15 (by decide), r10 16 (by decide)]
      exact t9
    · rw [a9', a10']
      exact t10
    · rw [r10 18 (by decide), r10 19 (by decide)]
      exact t14
    · intro b hb
      rw [r10 18 (by decide), r10 19 (by decide), a4']
      have := t15 b hb
      cases hq : lw b with
      | none => rw [hq] at this; exact this
      | some y =>
        rw [hq] at this
        obtain ⟨k1, ⟨st, k2, k3, k4⟩, b0, c0, k5, k6⟩ := this
        exact ⟨k1, ⟨st, k2, k3.eq (fun j _ _ => ⟨by rw [a5'], by rw [a6']⟩), k4⟩, b0, c0, k5.eq (fun j _ _ => ⟨by rw [r10 20 (by decide)], by rw [r10 21 (by decide)], by rw [r10 22 (by decide)], by rw [r10 23 (by decide)], by rw [r10 24 (by decide)]⟩) (fun j _ _ => ⟨by rw [r10 25 (by decide)], by rw [r10 26 (by decide)]⟩), k6⟩
  · have hz : ¬ F2 37 3 = 0 := by rw [cp2.1]; exact nI_ne0 (by omega) (by omega)
    have hz' : ¬ G1 13 = 0 := by rw [g2.1]; exact nI_ne0 (by omega) (by omega)
    have n4 : ¬ (400 : Int32) < nI 0 := by decide
    have e60 : fX3_tellPile_b19 FU 37 (nI 0) (mkC F2 Ac Bc r) = fX3_tellPile_b60 37 (mkC F2 Ac Bc r) := by
      rw [hQ, fX3_tellPile_b19]
      simp -implicitDefEqProofs (disch := first | assumption | omega | decide | exact And.intro (by omega) (by omega)) only [cck_0, cr0_0, cr0_1, cr0_2, cr0_3, cg0_4, cp0_4, cg0_5, cp0_5, cck_1, cg1_0, cp1_0, cr1_1, cr1_2, cr1_3, cg1_4, cp1_4, cg1_5, cp1_5, cr1_6, cr1_7, cck_2, cr2_0, cr2_1, cr2_2, cck_3, cr3_0, cr3_1, cg3_2, cp3_2, cg3_3, cp3_3, cg3_4, cp3_4, cg3_5, cp3_5, cg3_6, cp3_6, cg3_7, cp3_7, cg3_8, cp3_8, cck_4, cg4_0, cp4_0, cg4_1, cp4_1, cr4_2, cr4_3, cr4_4, cr4_5, cck_5, cg5_0, cp5_0, cr5_1, cr5_2, cr5_3, cck_6, cg6_0, cp6_0, cg6_1, cp6_1, cck_7, cg7_0, cp7_0, cg7_1, cp7_1, cr7_2, cr7_3, cr7_4, cr7_5, cr7_6, cr7_7, cr7_8, cck_8, cr8_0, cr8_1, cck_9, cr9_0, cr9_1, cr9_2, cr9_3, cg9_4, cp9_4, cck_10, cg10_0, cp10_0, cr10_1, cr10_2, cr10_3, cr10_4, cg10_5, cp10_5, cr10_6, cr10_7, cr10_8, cg10_9, cp10_9, cg10_10, cp10_10, cr10_11, cr10_12, cr10_13, cr10_14, cck_11, cr11_0, cg11_1, cp11_1, cr11_2, cr11_3, cr11_4, cr11_5, cr11_6, cr11_7, cr11_8, cr11_9, cr11_10, cr11_11, cr11_12, cr11_13, cr11_14, ca_30, cs_30, ca_31, cs_31, ca_32, cs_32, ca_33, cs_33, ca_34, cs_34, ca_35, cs_35, ca_36, cs_36, ca_37, cs_37, ca_38, cs_38, ca_39, cs_39, ca_40, cs_40, ca_41, cs_41, ca_42, cs_42, car_20, car_21, car_22, cq11_3, cq11_4, cq3_1, cq0_0, cq0_1, if_true, if_false, Option.bind_some, cb_e, lt_e, nI_1, hs_nar2, nh4, upd_at, vau_at, ca_42_0, cs_42_0, if_neg n4, if_neg hz]
    have e228 : fX12_tellPile_b4 FU 0 (nI 0) (nI 0) (mkM G1 A B) = fX12_tellPile_b228 0 (nI 0) (mkM G1 A B) := by
      rw [hQ, fX12_tellPile_b4]
      simp -implicitDefEqProofs (disch := first | assumption | omega | decide | exact And.intro (by omega) (by omega)) only [mck, mg_0, mp_0, mr_1, mg_2, mp_2, mr_3, mg_4, mp_4, mr_5, mr_6, mr_7, mr_8, mr_9, mg_10, mp_10, mg_11, mp_11, mg_12, mp_12, mg_13, mp_13, mg_14, mp_14, mg_15, mp_15, mg_16, mp_16, mg_17, mp_17, mg_18, mp_18, mg_19, mp_19, mg_20, mp_20, mr_21, mr_22, mr_23, mr_24, mr_25, mr_26, mr_27, mr_28, mr_29, mr_30, mr_31, mr_32, mg_33, mp_33, mr_34, mr_35, mr_36, mr_37, mr_38, mg_39, mp_39, mr_40, mr_41, mr_42, mg_43, mp_43, mr_44, mr_45, mg_46, mp_46, mr_47, mr_48, mg_49, mp_49, mg_50, mp_50, mg_51, mp_51, mr_52, mr_53, mr_54, mg_55, mp_55, mr_56, mr_57, mg_58, mp_58, mg_59, mp_59, mg_60, mp_60, mr_61, mg_62, mp_62, mr_63, mr_64, mr_65, mr_66, mr_67, mr_68, ma_1, ms_1, ma_2, ms_2, ma_3, ms_3, ma_4, ms_4, ma_5, ms_5, ma_6, ms_6, ma_7, ms_7, ma_8, ms_8, ma_9, ms_9, ma_10, ms_10, ma_11, ms_11, ma_12, ms_12, ma_13, ms_13, ma_14, ms_14, ma_15, ms_15, ma_16, ms_16, ma_17, ms_17, ma_18, ms_18, ma_19, ms_19, ma_20, ms_20, ma_21, ms_21, ma_22, ms_22, ma_23, ms_23, ma_24, ms_24, ma_25, ms_25, ma_26, ms_26, ma_27, ms_27, ma_28, ms_28, ma_29, ms_29, ma_30, ms_30, ma_31, ms_31, ma_32, ms_32, ma_33, ms_33, ma_34, ms_34, ma_35, ms_35, ma_36, ms_36, ma_37, ms_37, ma_38, ms_38, ma_39, ms_39, ma_40, ms_40, ma_41, ms_41, ma_42, ms_42, ma_43, ms_43, if_true, if_false, Option.bind_some, cb_e, lt_e, nI_1, hs_nar2, nh4, upd_at, vau_at, ma_30_18, ms_30_18, ma_31_18, ms_31_18, ma_28_0, ms_28_0, ma_28_1, ms_28_1, ma_28_2, ms_28_2, ma_28_3, ms_28_3, ma_28_4, ms_28_4, ma_42_0, ms_42_0, ma_42_1, ms_42_1, ma_42_2, ms_42_2, ma_36_0, ms_36_0, if_neg hz']
    obtain ⟨Fc2, F3, A2, m1, m2, m3, m4, m5, m6, m7, m8⟩ := pile_end (Bc := Bc) (r := r) (B := B) (n := 0) hK psd l2 cp2 ck g2 mtk (by rw [g3 19 (by decide) (by decide) (by decide)]; exact p19) (by decide)
    rw [stp_F cz] at m3 m4
    refine ⟨Fc2, Ac, Bc, F3, A2, B, _, _, crun.trans (e60.trans m1), mrun _ (e228.trans m2), ⟨fun c z1 z2 z3 => by rw [m5 c z1, fo2 c z1 z3], fun _ _ => rfl, fun _ _ => rfl⟩, ⟨fun k z1 _ _ _ _ => by rw [m7 k (by omega) (by omega) (by omega), g3 k (by omega) (by omega) (by omega)], fun a j z => ?_, fun _ _ => rfl⟩, fun q => absurd q cz, fun _ => ⟨m3, m4⟩⟩
    rw [m8]
    by_cases a17 : a = 17
    · subst a17
      rw [vau_at, upd_ne (fun ej => z (by unfold SReg; omega))]
    · rw [vau_ne a17]
end P99
