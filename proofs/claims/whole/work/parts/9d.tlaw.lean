/-! ===== a law is told, in both ===== -/
section L9d
variable {d sd M : Nat} {K V : Nat → Nat} {NM : Nat → List Nat} {PL : Nat → Nat} {r : Nat → Nat} {Fc Ac : Nat → Nat → Int32} {Bc : Nat → Nat → Int64} {F : Nat → Int32} {A : Nat → Nat → Int32} {B : Nat → Nat → Int64} {t : Nat}
theorem c_knwB {w : Nat × Nat} {j nc : Nat} (hd : d = 7 ∨ d = 22) (hr : r 2 = d) (hw : SlC Fc w) (hj : j < 402) (h0 : Fc d 0 = nI nc) (hnc : nc ≤ 6) : ∃ F' x sl', fX3_knownBook 37 (nI j) (mkC Fc Ac Bc r) = some (x, mkC F' Ac Bc r) ∧ (∀ c, ¬ c = 37 → F' c = Fc c) ∧ (∀ x, ¬ x = 5 → ¬ x = 6 → F' 37 x = Fc 37 x) ∧ F' 37 5 = nI sl' ∧ sl' ≤ 5 := by
  have hr2 : gR (mkC Fc Ac Bc r) 3 37 1 = some d := by rw [cr3_1 rfl, hr]
  have kd : c_kd d = 10 := by rcases hd with h | h <;> subst h <;> rfl
  obtain ⟨x, go⟩ := c_namedA (Ac := Ac) (Bc := Bc) (r := r) (v := Bc 6 j) hd hnc h0 nc 0 FU (by omega) (by unfold FU; omega)
  have nm : fX10_bookNamed d (Bc 6 j) (mkC Fc Ac Bc r) = some (x, mkC Fc Ac Bc r) := by
    unfold fX10_bookNamed
    simp -implicitDefEqProofs (disch := first | assumption | omega | decide | exact And.intro (by omega) (by omega)) only [cck_0, cr0_0, cr0_1, cr0_2, cr0_3, cg0_4, cp0_4, cg0_5, cp0_5, cck_1, cg1_0, cp1_0, cr1_1, cr1_2, cr1_3, cg1_4, cp1_4, cg1_5, cp1_5, cr1_6, cr1_7, cck_2, cr2_0, cr2_1, cr2_2, cck_3, cr3_0, cr3_1, cg3_2, cp3_2, cg3_3, cp3_3, cg3_4, cp3_4, cg3_5, cp3_5, cg3_6, cp3_6, cg3_7, cp3_7, cg3_8, cp3_8, cck_4, cg4_0, cp4_0, cg4_1, cp4_1, cr4_2, cr4_3, cr4_4, cr4_5, cck_5, cg5_0, cp5_0, cr5_1, cr5_2, cr5_3, cck_6, cg6_0, cp6_0, cg6_1, cp6_1, cck_7, cg7_0, cp7_0, cg7_1, cp7_1, cr7_2, cr7_3, cr7_4, cr7_5, cr7_6, cr7_7, cr7_8, cck_8, cr8_0, cr8_1, cck_9, cr9_0, cr9_1, cr9_2, cr9_3, cg9_4, cp9_4, cck_10, cg10_0, cp10_0, cr10_1, cr10_2, cr10_3, cr10_4, cg10_5, cp10_5, cr10_6, cr10_7, cr10_8, cg10_9, cp10_9, cg10_10, cp10_10, cr10_11, cr10_12, cr10_13, cr10_14, cck_11, cr11_0, cg11_1, cp11_1, cr11_2, cr11_3, cr11_4, cr11_5, cr11_6, cr11_7, cr11_8, cr11_9, cr11_10, cr11_11, cr11_12, cr11_13, cr11_14, ca_30, cs_30, ca_31, cs_31, ca_32, cs_32, ca_33, cs_33, ca_34, cs_34, ca_35, cs_35, ca_36, cs_36, ca_37, cs_37, ca_38, cs_38, ca_39, cs_39, ca_40, cs_40, ca_41, cs_41, ca_42, cs_42, car_20, car_21, car_22, cq11_3, cq11_4, cq3_1, cq0_0, cq0_1, if_true, if_false, Option.bind_some, cb_e, lt_e, nI_1, hs_nar2, nh4, upd_at, vau_at, ca_42_0, cs_42_0]
    exact go
  have s1 : fX3_slipAt 37 4 (nI j) (mkC Fc Ac Bc r) = some ((), mkC (slF Fc Ac w.1 4 j) Ac Bc r) := c_slip hw.2.1 hw.1 hj
  by_cases c : x = -1
  · by_cases c0 : w.1 = 0
    · refine ⟨slF Fc Ac w.1 4 j, x, 4, ?_, (slF_ne _ _ _).1, (slF_ne _ _ _).2, ?_, by decide⟩
      · unfold fX3_knownBook
        simp -implicitDefEqProofs (disch := first | assumption | omega | decide | exact And.intro (by omega) (by omega)) only [cck_0, cr0_0, cr0_1, cr0_2, cr0_3, cg0_4, cp0_4, cg0_5, cp0_5, cck_1, cg1_0, cp1_0, cr1_1, cr1_2, cr1_3, cg1_4, cp1_4, cg1_5, cp1_5, cr1_6, cr1_7, cck_2, cr2_0, cr2_1, cr2_2, cck_3, cr3_0, cr3_1, cg3_2, cp3_2, cg3_3, cp3_3, cg3_4, cp3_4, cg3_5, cp3_5, cg3_6, cp3_6, cg3_7, cp3_7, cg3_8, cp3_8, cck_4, cg4_0, cp4_0, cg4_1, cp4_1, cr4_2, cr4_3, cr4_4, cr4_5, cck_5, cg5_0, cp5_0, cr5_1, cr5_2, cr5_3, cck_6, cg6_0, cp6_0, cg6_1, cp6_1, cck_7, cg7_0, cp7_0, cg7_1, cp7_1, cr7_2, cr7_3, cr7_4, cr7_5, cr7_6, cr7_7, cr7_8, cck_8, cr8_0, cr8_1, cck_9, cr9_0, cr9_1, cr9_2, cr9_3, cg9_4, cp9_4, cck_10, cg10_0, cp10_0, cr10_1, cr10_2, cr10_3, cr10_4, cg10_5, cp10_5, cr10_6, cr10_7, cr10_8, cg10_9, cp10_9, cg10_10, cp10_10, cr10_11, cr10_12, cr10_13, cr10_14, cck_11, cr11_0, cg11_1, cp11_1, cr11_2, cr11_3, cr11_4, cr11_5, cr11_6, cr11_7, cr11_8, cr11_9, cr11_10, cr11_11, cr11_12, cr11_13, cr11_14, ca_30, cs_30, ca_31, cs_31, ca_32, cs_32, ca_33, cs_33, ca_34, cs_34, ca_35, cs_35, ca_36, cs_36, ca_37, cs_37, ca_38, cs_38, ca_39, cs_39, ca_40, cs_40, ca_41, cs_41, ca_42, cs_42, car_20, car_21, car_22, cq11_3, cq11_4, cq3_1, cq0_0, cq0_1, if_true, if_false, Option.bind_some, cb_e, lt_e, nI_1, hs_nar2, nh4, upd_at, vau_at, ca_42_0, cs_42_0, hr2, nm, if_pos c, s1]
      · unfold slF
        rw [if_pos c0, vau_at, upd_ne (by decide), upd_at]
    · refine ⟨slF Fc Ac w.1 4 j, x, w.1, ?_, (slF_ne _ _ _).1, (slF_ne _ _ _).2, ?_, hw.1⟩
      · unfold fX3_knownBook
        simp -implicitDefEqProofs (disch := first | assumption | omega | decide | exact And.intro (by omega) (by omega)) only [cck_0, cr0_0, cr0_1, cr0_2, cr0_3, cg0_4, cp0_4, cg0_5, cp0_5, cck_1, cg1_0, cp1_0, cr1_1, cr1_2, cr1_3, cg1_4, cp1_4, cg1_5, cp1_5, cr1_6, cr1_7, cck_2, cr2_0, cr2_1, cr2_2, cck_3, cr3_0, cr3_1, cg3_2, cp3_2, cg3_3, cp3_3, cg3_4, cp3_4, cg3_5, cp3_5, cg3_6, cp3_6, cg3_7, cp3_7, cg3_8, cp3_8, cck_4, cg4_0, cp4_0, cg4_1, cp4_1, cr4_2, cr4_3, cr4_4, cr4_5, cck_5, cg5_0, cp5_0, cr5_1, cr5_2, cr5_3, cck_6, cg6_0, cp6_0, cg6_1, cp6_1, cck_7, cg7_0, cp7_0, cg7_1, cp7_1, cr7_2, cr7_3, cr7_4, cr7_5, cr7_6, cr7_7, cr7_8, cck_8, cr8_0, cr8_1, cck_9, cr9_0, cr9_1, cr9_2, cr9_3, cg9_4, cp9_4, cck_10, cg10_0, cp10_0, cr10_1, cr10_2, cr10_3, cr10_4, cg10_5, cp10_5, cr10_6, cr10_7, cr10_8, cg10_9, cp10_9, cg10_10, cp10_10, cr10_11, cr10_12, cr10_13, cr10_14, cck_11, cr11_0, cg11_1, cp11_1, cr11_2, cr11_3, cr11_4, cr11_5, cr11_6, cr11_7, cr11_8, cr11_9, cr11_10, cr11_11, cr11_12, cr11_13, cr11_14, ca_30, cs_30, ca_31, cs_31, ca_32, cs_32, ca_33, cs_33, ca_34, cs_34, ca_35, cs_35, ca_36, cs_36, ca_37, cs_37, ca_38, cs_38, ca_39, cs_39, ca_40, cs_40, ca_41, cs_41, ca_42, cs_42, car_20, car_21, car_22, cq11_3, cq11_4, cq3_1, cq0_0, cq0_1, if_true, if_false, Option.bind_some, cb_e, lt_e, nI_1, hs_nar2, nh4, upd_at, vau_at, ca_42_0, cs_42_0, hr2, nm, if_pos c, s1]
      · unfold slF
        rw [if_neg c0]
        exact hw.2.1
  · refine ⟨Fc, x, w.1, ?_, fun _ _ => rfl, fun _ _ _ => rfl, hw.2.1, hw.1⟩
    unfold fX3_knownBook
    simp -implicitDefEqProofs (disch := first | assumption | omega | decide | exact And.intro (by omega) (by omega)) only [cck_0, cr0_0, cr0_1, cr0_2, cr0_3, cg0_4, cp0_4, cg0_5, cp0_5, cck_1, cg1_0, cp1_0, cr1_1, cr1_2, cr1_3, cg1_4, cp1_4, cg1_5, cp1_5, cr1_6, cr1_7, cck_2, cr2_0, cr2_1, cr2_2, cck_3, cr3_0, cr3_1, cg3_2, cp3_2, cg3_3, cp3_3, cg3_4, cp3_4, cg3_5, cp3_5, cg3_6, cp3_6, cg3_7, cp3_7, cg3_8, cp3_8, cck_4, cg4_0, cp4_0, cg4_1, cp4_1, cr4_2, cr4_3, cr4_4, cr4_5, cck_5, cg5_0, cp5_0, cr5_1, cr5_2, cr5_3, cck_6, cg6_0, cp6_0, cg6_1, cp6_1, cck_7, cg7_0, cp7_0, cg7_1, cp7_1, cr7_2, cr7_3, cr7_4, cr7_5, cr7_6, cr7_7, cr7_8, cck_8, cr8_0, cr8_1, cck_9, cr9_0, cr9_1, cr9_2, cr9_3, cg9_4, cp9_4, cck_10, cg10_0, cp10_0, cr10_1, cr10_2, cr10_3, cr10_4, cg10_5, cp10_5, cr10_6, cr10_7, cr10_8, cg10_9, cp10_9, cg10_10, cp10_10, cr10_11, cr10_12, cr10_13, cr10_14, cck_11, cr11_0, cg11_1, cp11_1, cr11_2, cr11_3, cr11_4, cr11_5, cr11_6, cr11_7, cr11_8, cr11_9, cr11_10, cr11_11, cr11_12, cr11_13, cr11_14, ca_30, cs_30, ca_31, cs_31, ca_32, cs_32, ca_33, cs_33, ca_34, cs_34, ca_35, cs_35, ca_36, cs_36, ca_37, cs_37, ca_38, cs_38, ca_39, cs_39, ca_40, cs_40, ca_41, cs_41, ca_42, cs_42, car_20, car_21, car_22, cq11_3, cq11_4, cq3_1, cq0_0, cq0_1, if_true, if_false, Option.bind_some, cb_e, lt_e, nI_1, hs_nar2, nh4, upd_at, vau_at, ca_42_0, cs_42_0, hr2, nm, if_neg c]
theorem MLy.fm {br c lb : Nat} {F' : Nat → Int32} {A' : Nat → Nat → Int32} (h : MLy sd br c lb (420 * sd + 402) F F' A A') (hb : 130 * sd ≤ br) (hl : lb ≤ 130 * sd + 130) (hc : 420 * sd ≤ c) : MFm sd F F' A A' B B := by
  refine ⟨fun k q1 q2 q3 q4 q5 => h.1 k (by omega) q3 q4 q5, fun a j q => ?_, fun _ _ => rfl⟩
  by_cases a1 : 18 ≤ a ∧ a ≤ 19
  · have := h.2.2.2.2 j (fun z => q (by unfold SReg; omega))
    have ea : a = 18 ∨ a = 19 := by omega
    rcases ea with ea | ea
    · rw [ea]; exact this.1
    · rw [ea]; exact this.2
  · by_cases a2 : 20 ≤ a ∧ a ≤ 24
    · refine h.2.2.1 a j a2.1 a2.2 ?_
      have z : ¬ (130 * sd ≤ j ∧ j < 130 * sd + 130) := fun z => q (by unfold SReg; omega)
      omega
    · by_cases a3 : 25 ≤ a ∧ a ≤ 26
      · have z : ¬ (420 * sd ≤ j ∧ j < 420 * sd + 420) := fun z => q (by unfold SReg; omega)
        have := h.2.2.2.1 j (by omega)
        have ea : a = 25 ∨ a = 26 := by omega
        rcases ea with ea | ea
        · rw [ea]; exact this.1
        · rw [ea]; exact this.2
      · by_cases a4 : a = 27
        · exact absurd (by unfold SReg; omega) q
        · rw [h.2.1 a (by omega)]
set_option maxHeartbeats 8000000 in
theorem t_law (hd : d = 7 ∨ d = 22) (hr : r 2 = d) (h : Rd d sd M K V NM PL Fc Ac Bc F A B t) (e : K t = 1) : Tells d sd M K V NM PL r (fX3_tellHeavy 37) (fX12_tell 0) Fc Ac Bc F A B t := by
  obtain ⟨⟨ht, tk, hcp, hmp⟩, sl, sp, nb, nf, nc, cc, cm, br, g, hP, hT⟩ := h
  have hK := tk.tk
  obtain ⟨ck, mtk⟩ := tk.cm
  have hM := hK.1
  obtain ⟨⟨p12, p19, psd⟩, ⟨s5, csl, msl, spl, sp0⟩, ⟨p5, p6, p7, p8, p9⟩, ⟨q1, q2, q3⟩, ⟨q4, q5, q6⟩, ⟨q7, q8⟩, ⟨u1, u2, u3⟩, ⟨u4, u5, u6⟩, ⟨v1, v2, v3⟩, v4, v5, v6⟩ := id hP
  obtain ⟨y, y1, y2, y3⟩ := hmp.2.1
  rw [y3 rfl] at y2
  have ht403 : t < 403 := by omega
  have k3 : A 3 t = (21 : Int32) := by rw [(mtk t ht).1, e]; rfl
  have d37 : ¬ d = 37 := by omega
  have e37 : ¬ (37 : Nat) = d + 11 := by omega
  have kd : c_kd d = 10 := by rcases hd with h | h <;> subst h <;> rfl
  have hpl : ∀ a, a ≤ M → PL a ≤ 2000 := fun a ha => (tk.2.1 a ha).2.2.2.1
  have mo : ∀ a b, a < b → b ≤ M → PL a < PL b := fun a b hab hb => tk.lt b a hab hb
  have cc4 : cc ≤ 400 := by omega
  have nc6 : nc ≤ 6 := by omega
  have lbr : br + 6 ≤ 130 * sd + 130 := by omega
  have brl : br < 130 * sd + 130 := by omega
  have lb260 : 130 * sd + 130 ≤ 260 := by omega
  have cb420 : 420 * sd ≤ 420 := by omega
  obtain ⟨⟨l1, l2, l3⟩, l4⟩ := stp_ok hK (k := 1) (s := (0, t)) (by decide) ht (Nat.zero_le _)
  obtain ⟨⟨l5, l6, l7⟩, l8⟩ := stp_ok hK (k := 16) (s := stp K 1 (0, t)) (by decide) l2 l3
  obtain ⟨⟨l9, l10, l11⟩, l12⟩ := stp_ok hK (k := 61) (s := stp K 16 (stp K 1 (0, t))) (by decide) l6 l7
  obtain ⟨F1, x1, a1, a2, a3, a4, a5⟩ := c_stp (Bc := Bc) (r := r) hK (k := 1) (s := (0, t)) ht hcp ck (by decide) (by decide)
  obtain ⟨F2, x2, b1, b2, b3, b4, b5⟩ := c_stp (Bc := Bc) (r := r) hK (k := 16) l2 a2 ck (by decide) (by decide)
  obtain ⟨F3, x3, c1, c2, c3, c4, c5⟩ := c_stp (Bc := Bc) (r := r) hK (k := 61) l6 b2 ck (by decide) (by decide)
  have a1' : fX3_take 37 1 (mkC Fc Ac Bc r) = some (x1, mkC F1 Ac Bc r) := a1
  have b1' : fX3_take 37 16 (mkC F1 Ac Bc r) = some (x2, mkC F2 Ac Bc r) := b1
  have c1' : fX3_take 37 61 (mkC F2 Ac Bc r) = some (x3, mkC F3 Ac Bc r) := c1
  have hj : ∃ j, j < 402 ∧ x2 = nI j := by
    by_cases c : (stp K 1 (0, t)).1 = 0
    · exact ⟨_, by omega, b5 c⟩
    · have z := c_takeF (A := Ac) (B := Bc) (r := r) a2 c (nI 16)
      rw [b1] at z
      injection z with z
      have z2 : x2 = F1 37 2 := congrArg Prod.fst z
      obtain ⟨x, w1, w2, _⟩ := a2.2.1
      exact ⟨x, by omega, by rw [z2, w2]⟩
  have fo3 : ∀ c, ¬ c = 37 → F3 c = Fc c := fun c hc => by rw [c3 c hc, b3 c hc, a3 c hc]
  have fk3 : ∀ k, ¬ k = 2 → ¬ k = 3 → ¬ k = 4 → F3 37 k = Fc 37 k := fun k z1 z2 z3 => by rw [c4 k z1 z2 z3, b4 k z1 z2 z3, a4 k z1 z2 z3]
  have sc3 : SlC F3 (sl, sp) := SlC.eq (F := Fc) ⟨s5, csl, fun q => (spl q).1, sp0⟩ fk3
  have hrx : ∀ Fx : Nat → Nat → Int32, gR (mkC Fx Ac Bc r) 3 37 1 = some d := fun Fx => by rw [cr3_1 rfl, hr]
  obtain ⟨G1, g1, g2, g3⟩ := m_go (B := B) hK ht hmp mtk e (by decide)
  have sm1 : SlM G1 (sl, sp) := SlM.eq (F := F) ⟨s5, msl, fun q => (spl q).2.1⟩ g3
  obtain ⟨G2, x, h1, h2, h3, h4, h5, h6⟩ := m_knw (NM := NM) (B := B) (w := (sl, sp)) (g := g) hK l2 g2 mtk (fun j hj q => ⟨((tk.2.1 j hj).2.2.2.2.2 q).2.1, ((tk.2.1 j hj).2.2.2.2.2 q).2.2⟩) (fun q => ⟨sm1, fun z => Nat.lt_of_lt_of_le (spl z).2.2 (tk.le l1 l2)⟩) (hpl _ l2) (by rw [g3 20 (by decide) (by decide) (by decide)]; exact p8) p5 p9
  obtain ⟨G3, i1, i2, i3⟩ := m_stp (B := B) hK (k := 61) l6 h2 mtk rfl (by decide)
  have i1' : fX12_must 0 5 (mkM G2 A B) = some ((), mkM G3 A B) := i1
  have Gfo : ∀ k, ¬ (11 ≤ k ∧ k ≤ 16) → G3 k = F k := fun k q => by rw [i3 k (by omega) (by omega) (by omega), h3 k q, g3 k (by omega) (by omega) (by omega)]
  have g312 : G3 12 = 0 := by rw [i3 12 (by decide) (by decide) (by decide), h4, g3 12 (by decide) (by decide) (by decide)]; exact p12
  have g333 : G3 33 = nI br := by rw [Gfo 33 (by decide)]; exact u4
  have g339 : G3 39 = nI cm := by rw [Gfo 39 (by decide)]; exact u1
  have g319 : G3 19 = nI sd := by rw [Gfo 19 (by decide)]; exact p19
  have mrun : ∀ s, fX12_tellLaw_b12 FU 0 x (nI br) (nI 0) (mkM G3 A B) = some ((), s) → fX12_tell 0 (mkM F A B) = some ((), s) := fun s hs => by
    have hs' : fX12_tellLaw_b12 FU 0 x (nI br) 0 (mkM G3 A B) = some ((), s) := hs
    unfold fX12_tell fX12_tellLaw
    rw [mck, mr_5, Option.bind_some, mg_11, Option.bind_some, y2, ma_3 _ _ _ ht403, Option.bind_some, k3, if_neg (show ¬ (21 : Int32) = 20 by decide), if_pos rfl]
    simp -implicitDefEqProofs (disch := first | assumption | omega | decide | exact And.intro (by omega) (by omega)) only [mck, mg_0, mp_0, mr_1, mg_2, mp_2, mr_3, mg_4, mp_4, mr_5, mr_6, mr_7, mr_8, mr_9, mg_10, mp_10, mg_11, mp_11, mg_12, mp_12, mg_13, mp_13, mg_14, mp_14, mg_15, mp_15, mg_16, mp_16, mg_17, mp_17, mg_18, mp_18, mg_19, mp_19, mg_20, mp_20, mr_21, mr_22, mr_23, mr_24, mr_25, mr_26, mr_27, mr_28, mr_29, mr_30, mr_31, mr_32, mg_33, mp_33, mr_34, mr_35, mr_36, mr_37, mr_38, mg_39, mp_39, mr_40, mr_41, mr_42, mg_43, mp_43, mr_44, mr_45, mg_46, mp_46, mr_47, mr_48, mg_49, mp_49, mg_50, mp_50, mg_51, mp_51, mr_52, mr_53, mr_54, mg_55, mp_55, mr_56, mr_57, mg_58, mp_58, mg_59, mp_59, mg_60, mp_60, mr_61, mg_62, mp_62, mr_63, mr_64, mr_65, mr_66, mr_67, mr_68, ma_1, ms_1, ma_2, ms_2, ma_3, ms_3, ma_4, ms_4, ma_5, ms_5, ma_6, ms_6, ma_7, ms_7, ma_8, ms_8, ma_9, ms_9, ma_10, ms_10, ma_11, ms_11, ma_12, ms_12, ma_13, ms_13, ma_14, ms_14, ma_15, ms_15, ma_16, ms_16, ma_17, ms_17, ma_18, ms_18, ma_19, ms_19, ma_20, ms_20, ma_21, ms_21, ma_22, ms_22, ma_23, ms_23, ma_24, ms_24, ma_25, ms_25, ma_26, ms_26, ma_27, ms_27, ma_28, ms_28, ma_29, ms_29, ma_30, ms_30, ma_31, ms_31, ma_32, ms_32, ma_33, ms_33, ma_34, ms_34, ma_35, ms_35, ma_36, ms_36, ma_37, ms_37, ma_38, ms_38, ma_39, ms_39, ma_40, ms_40, ma_41, ms_41, ma_42, ms_42, ma_43, ms_43, if_true, if_false, Option.bind_some, cb_e, lt_e, nI_1, hs_nar2, nh4, upd_at, vau_at, ma_30_18, ms_30_18, ma_31_18, ms_31_18, ma_28_0, ms_28_0, ma_28_1, ms_28_1, ma_28_2, ms_28_2, ma_28_3, ms_28_3, ma_28_4, ms_28_4, ma_42_0, ms_42_0, ma_42_1, ms_42_1, ma_42_2, ms_42_2, ma_36_0, ms_36_0, g1, h1, i1', g333, hs']
  obtain ⟨Q, hQ⟩ : ∃ q, FU = q + 1 := ⟨FU - 1, by unfold FU; omega⟩
  by_cases cz : (stp K 61 (stp K 16 (stp K 1 (0, t)))).1 = 0
  · obtain ⟨z1, z2, z3, z4⟩ := l12 cz
    obtain ⟨z5, z6, z7, z8⟩ := l8 z1
    obtain ⟨z9, z10, z11, z12⟩ := l4 z5
    have t1 : (stp K 1 (0, t)).2 = t + 1 := z10
    have t2 : (stp K 16 (stp K 1 (0, t))).2 = t + 2 := by rw [z6, t1]
    have t3 : (stp K 61 (stp K 16 (stp K 1 (0, t)))).2 = t + 3 := by rw [z2, t2]
    have ex2 : x2 = nI (t + 1) := by rw [b5 z5, t1]
    subst ex2
    rw [t1] at z7 l2
    rw [cz, t3] at c2 i2
    have l3M : t + 3 ≤ M := by rw [← t3]; exact l10
    obtain ⟨nm1, nm2⟩ : Bc 6 (t + 1) = jN (cN 32 (NM (t + 1))) ∧ Nam (NM (t + 1)) := ⟨((tk.2.1 (t + 1) l2).2.2.2.2.2 z7).1, ((tk.2.1 (t + 1) l2).2.2.2.2.2 z7).2.2⟩
    obtain ⟨F4, j1, j2, j3, j4⟩ := c_knw (Bc := Bc) (r := r) (PL := PL) (j := t + 1) (g := g) (nc := nc) hd hr sc3 (by omega) (ck _ l2).2.1 nm1 nm2 (by rw [fo3 d d37]; exact q5) nc6 (fun i hi => ⟨q6 i hi, (p9 i (by omega)).2⟩)
    obtain ⟨m1, m2⟩ := h6 z1
    rw [t1] at m1 m2
    have eun : slp (sl, sp) (decide (fndN g (NM (t + 1)) nc 0 = none)) 4 (PL (t + 1)) = slp (sl, sp) (decide (fndN g (NM (t + 1)) nb 0 = none)) 4 (PL (t + 1)) := by
      by_cases c0 : sl = 0
      · obtain ⟨T, lw, P, ⟨t1, _⟩, _⟩ := hT c0
        rw [t1]
      · rw [slp_n0 (w := (sl, sp)) c0, slp_n0 (w := (sl, sp)) c0]
    rw [eun] at j2
    have w1lt : ∀ q, t + 1 < q → q ≤ M → ¬ (slp (sl, sp) (decide (fndN g (NM (t + 1)) nb 0 = none)) 4 (PL (t + 1))).1 = 0 → (slp (sl, sp) (decide (fndN g (NM (t + 1)) nb 0 = none)) 4 (PL (t + 1))).2 < PL q := fun q hq hqm => slp_lt (p0 := PL t) (fun z => (spl z).2.2) (tk.le (by omega) hqm) (tk.lt _ _ hq hqm)
    have w10 : (slp (sl, sp) (decide (fndN g (NM (t + 1)) nb 0 = none)) 4 (PL (t + 1))).1 = 0 → sl = 0 ∧ ∃ b, fndN g (NM (t + 1)) nb 0 = some b := fun q => by
      obtain ⟨e1, e2⟩ := slp_0 (by decide) q
      refine ⟨e1, ?_⟩
      cases hq : fndN g (NM (t + 1)) nb 0 with
      | none => exact absurd hq (of_decide_eq_false e2)
      | some b => exact ⟨b, rfl⟩
    generalize hw1 : slp (sl, sp) (decide (fndN g (NM (t + 1)) nb 0 = none)) 4 (PL (t + 1)) = w1 at *
    have fo4 : ∀ c, ¬ c = 37 → F4 c = Fc c := fun c hc => by rw [j3 c hc, fo3 c hc]
    have fk4 : ∀ k, ¬ (2 ≤ k ∧ k ≤ 6) → F4 37 k = Fc 37 k := fun k hk => by rw [j4 k (by omega) (by omega), fk3 k (by omega) (by omega) (by omega)]
    have cp4 : CPo F4 PL 0 (t + 3) := by
      unfold CPo at c2 ⊢
      rw [j4 2 (by decide) (by decide), j4 3 (by decide) (by decide), j4 4 (by decide) (by decide)]
      exact c2
    have f45 : F4 d 5 = nI cc := by rw [fo4 d d37]; exact q7
    have crun : fX3_tellHeavy 37 (mkC Fc Ac Bc r) = fX3_tellHeavy_b37 FU 37 (rF (-1) (fndN g (NM (t + 1)) nc 0)) (nI cc) (nI (4 - 4)) (mkC F4 Ac Bc r) := by
      unfold fX3_tellHeavy
      simp -implicitDefEqProofs (disch := first | assumption | omega | decide | exact And.intro (by omega) (by omega)) only [cck_0, cr0_0, cr0_1, cr0_2, cr0_3, cg0_4, cp0_4, cg0_5, cp0_5, cck_1, cg1_0, cp1_0, cr1_1, cr1_2, cr1_3, cg1_4, cp1_4, cg1_5, cp1_5, cr1_6, cr1_7, cck_2, cr2_0, cr2_1, cr2_2, cck_3, cr3_0, cr3_1, cg3_2, cp3_2, cg3_3, cp3_3, cg3_4, cp3_4, cg3_5, cp3_5, cg3_6, cp3_6, cg3_7, cp3_7, cg3_8, cp3_8, cck_4, cg4_0, cp4_0, cg4_1, cp4_1, cr4_2, cr4_3, cr4_4, cr4_5, cck_5, cg5_0, cp5_0, cr5_1, cr5_2, cr5_3, cck_6, cg6_0, cp6_0, cg6_1, cp6_1, cck_7, cg7_0, cp7_0, cg7_1, cp7_1, cr7_2, cr7_3, cr7_4, cr7_5, cr7_6, cr7_7, cr7_8, cck_8, cr8_0, cr8_1, cck_9, cr9_0, cr9_1, cr9_2, cr9_3, cg9_4, cp9_4, cck_10, cg10_0, cp10_0, cr10_1, cr10_2, cr10_3, cr10_4, cg10_5, cp10_5, cr10_6, cr10_7, cr10_8, cg10_9, cp10_9, cg10_10, cp10_10, cr10_11, cr10_12, cr10_13, cr10_14, cck_11, cr11_0, cg11_1, cp11_1, cr11_2, cr11_3, cr11_4, cr11_5, cr11_6, cr11_7, cr11_8, cr11_9, cr11_10, cr11_11, cr11_12, cr11_13, cr11_14, ca_30, cs_30, ca_31, cs_31, ca_32, cs_32, ca_33, cs_33, ca_34, cs_34, ca_35, cs_35, ca_36, cs_36, ca_37, cs_37, ca_38, cs_38, ca_39, cs_39, ca_40, cs_40, ca_41, cs_41, ca_42, cs_42, car_20, car_21, car_22, cq11_3, cq11_4, cq3_1, cq0_0, cq0_1, if_true, if_false, Option.bind_some, cb_e, lt_e, nI_1, hs_nar2, nh4, upd_at, vau_at, ca_42_0, cs_42_0, a1', b1', c1', j1, hrx, f45]
      rfl
    obtain ⟨F5, A5, r1, r2, r3, r4⟩ := c_law (B := Bc) (V := V) (PL := PL) (r := r) (x3 := nI cc) (ob := fndN g (NM (t + 1)) nc 0) (x2 := rF (-1) (fndN g (NM (t + 1)) nc 0)) (sl := w1.1) hK hd hr j2.1 ⟨rfl, fun b hb => by have := fndN_lt _ _ _ hb; omega⟩ 4 (t + 3) cc FU F4 Ac l3M (by decide) cp4 f45 (by omega) ck j2.2.1 (by unfold FU; omega)
    obtain ⟨G4, A4, o1, o2, o3, o4⟩ := m_law (B := B) (V := V) (PL := PL) (cb := 420 * sd) (lb := 130 * sd + 130) (x2 := nI br) (ob := fndN g (NM (t + 1)) nb 0) (x1 := x) cb420 psd hK lb260 ⟨m1, fun b hb => by have := fndN_lt _ _ _ hb; omega⟩ 4 (t + 3) cm br FU G3 A l3M (by decide) i2 mtk g312 g339 (by omega) g333 (by omega) g319 (by unfold FU; omega)
    obtain ⟨⟨n1, n2⟩, n3⟩ := lwS_ok hK 4 (t + 3) l3M
    generalize hL : lwS K V 4 (t + 3) = L at *
    have GF : ∀ k, ¬ (11 ≤ k ∧ k ≤ 16) → ¬ k = 33 → ¬ k = 39 → ¬ k = 43 → G4 k = F k := fun k z1 z2 z3 z4 => by rw [o3.1 k (by omega) z2 z3 z4, Gfo k z1]
    have mf1 : MFm sd F G3 A A B B := ⟨fun k z1 _ _ _ _ => Gfo k z1, fun _ _ _ => rfl, fun _ _ => rfl⟩
    have mfm : MFm sd F G4 A A4 B B := mf1.tr (o3.fm u5 (Nat.le_refl _) u2)
    have cfm : CFm d Fc F5 Ac A5 Bc Bc := ⟨fun c z1 z2 _ => by rw [r3.1 c z1 z2, fo4 c z1], fun c z => r3.2.2.2 c (by omega) (by omega) (by omega), fun _ _ => rfl⟩
    refine ⟨F5, A5, Bc, G4, A4, B, L.1.1, L.1.2, crun.trans r1, mrun _ o1, cfm, mfm, fun fz => ?_, fun _ => ⟨r2, o2⟩⟩
    obtain ⟨y4, y5, y6, y7⟩ := r4 fz
    obtain ⟨y8, y9, y10, y11, y12, y13⟩ := o4 fz
    obtain ⟨n4, n5, n6, n7⟩ := n3 fz
    have n8 := szL_le L.2.1 L.2.2
    rw [fz] at r2 o2
    have lt1 : t < L.1.2 := by omega
    have c37 : ∀ k, ¬ (2 ≤ k ∧ k ≤ 6) → F5 37 k = Fc 37 k := fun k z => by rw [r3.2.2.1 k (by omega) (by omega) (by omega), fk4 k z]
    have Fd : ∀ k, ¬ k = 5 → F5 d k = Fc d k := fun k z => by rw [r3.2.1 k z, fo4 d d37]
    have sc5 : SlC F5 w1 := j2.eq r3.2.2.1
    have sm4 : SlM G4 w1 := by
      have z := m2.eq i3
      exact ⟨z.1, by rw [o3.1 15 (by decide) (by decide) (by decide) (by decide)]; exact z.2.1, fun q => by rw [o3.1 16 (by decide) (by decide) (by decide) (by decide)]; exact z.2.2 q⟩
    have am : ∀ a, ¬ (18 ≤ a ∧ a ≤ 27) → A4 a = A a := o3.2.1
    have ac : ∀ c, ¬ c = d + 4 → ¬ c = d + 5 → ¬ c = d + 6 → A5 c = Ac c := r3.2.2.2
    have leC : cc + szC L.2.1 L.2.2 ≤ L.1.2 := by omega
    have leM : 420 * sd ≤ cm + szL L.2.1 L.2.2 ∧ cm + szL L.2.1 L.2.2 ≤ 420 * sd + L.1.2 := by omega
    have leB : 130 * sd ≤ br + L.2.1.length + 1 ∧ 4 * (br + L.2.1.length + 1) ≤ 520 * sd + L.1.2 := by omega
    have F511 : F5 (d + 11) = Fc (d + 11) := by rw [r3.1 (d + 11) (by omega) (by omega), fo4 (d + 11) (by omega)]
    refine ⟨lt1, ⟨n1, tk.fm hd cfm mfm, r2, o2⟩, w1.1, w1.2, nb, nf, nc, cc + szC L.2.1 L.2.2, cm + szL L.2.1 L.2.2, br + L.2.1.length + 1, g, ⟨⟨y8, by rw [GF 19 (by decide) (by decide) (by decide) (by decide)]; exact p19, psd⟩, ⟨sc5.1, sc5.2.1, sm4.2.1, fun q => ⟨sc5.2.2.1 q, sm4.2.2 q, w1lt _ (by omega) n1 q⟩, sc5.2.2.2⟩, ⟨p5, by rw [c37 7 (by decide)]; exact p6, by rw [am 9 (by decide)]; exact p7, by rw [GF 20 (by decide) (by decide) (by decide) (by decide)]; exact p8, p9⟩, ⟨q1, by rw [c37 8 (by decide)]; exact q2, by rw [am 13 (by decide)]; exact q3⟩, ⟨q4, by rw [Fd 0 (by decide)]; exact q5, q6⟩, ⟨y4, leC⟩, ⟨y10, leM⟩, ⟨y9, leB⟩, ⟨v1, v2, by rw [Fd 10 (by decide)]; exact v3⟩, v4, v5, by rw [F511]; exact v6⟩, fun w0 => ?_⟩
    obtain ⟨sl0, b, hb⟩ := w10 w0
    obtain ⟨T, lw, P, ⟨t1, t2, t3, t4, t5⟩, t6, t7, ⟨t8, t9, t10⟩, ⟨t11, t12, t13⟩, t14, t15⟩ := hT sl0
    have ib := fndN_lt _ _ _ hb
    have ib6 : b < nb := by omega
    rw [t1, hb] at y7
    rw [hb] at y12 y13
    have y7' : A5 (d + 4) = upd (Ac (d + 4)) b (nI cc) := by
      rw [y7]
      exact if_pos w0
    have y12' : A4 18 = upd (A 18) (6 * sd + b) (nI br) := y12
    have y13' : A4 19 = upd (A 19) (6 * sd + b) (nI (br + L.2.1.length + 1)) := y13
    have a2' := ac (d + 2) (by omega) (by omega) (by omega)
    have a3' := ac (d + 3) (by omega) (by omega) (by omega)
    have a8' := ac (d + 8) (by omega) (by omega) (by omega)
    have a9' := ac (d + 9) (by omega) (by omega) (by omega)
    have a10' := ac (d + 10) (by omega) (by omega) (by omega)
    have a12' := ac (d + 11 + 1) (by omega) (by omega) (by omega)
    have a13' := ac (d + 11 + 2) (by omega) (by omega) (by omega)
    have a14' := ac (d + 11 + 3) (by omega) (by omega) (by omega)
    refine ⟨(T.1, T.2.1, T.2.2.1, T.2.2.2.1, T.2.2.2.2.1, T.2.2.2.2.2.1, T.2.2.2.2.2.2.1, T.2.2.2.2.2.2.2.1, fun x => if x = b then some (lawF L.2.1 L.2.2) else tLw T x), fun x => if x = b then some L.2 else lw x, P, ⟨t1, t2, t3, t4, fun x => ?_⟩, ?_, ⟨by rw [Fd 9 (by decide)]; exact t7.1, by rw [am 12 (by decide)]; exact t7.2⟩, ⟨by rw [Fd 10 (by decide)]; exact t8, ?_, ?_⟩, ⟨t11.eq F511 a12' a13' a14', ?_, t13⟩, ?_, ?_⟩
    · show (if x = b then some (lawF L.2.1 L.2.2) else tLw T x) = (if x = b then some L.2 else lw x).map fun x => lawF x.1 x.2
      by_cases ex : x = b
      · rw [if_pos ex, if_pos ex]
        rfl
      · rw [if_neg ex, if_neg ex]
        exact t5 x
    · rw [a2', a3', am 10 (by decide), am 11 (by decide)]
      exact t6
    · rw [a8', am 14 (by decide), am 15 (by decide), am 16 (by decide)]
      exact t9
    · rw [a9', a10']
      intro b' hb'
      rw [flyL_eq (T := T) (T' := (T.1, T.2.1, T.2.2.1, T.2.2.2.1, T.2.2.2.2.1, T.2.2.2.2.2.1, T.2.2.2.2.2.2.1, T.2.2.2.2.2.2.2.1, fun x => if x = b then some (lawF L.2.1 L.2.2) else tLw T x)) (fun _ => rfl) (fun _ => rfl), flyT_eq (T := T) (T' := (T.1, T.2.1, T.2.2.1, T.2.2.2.1, T.2.2.2.2.1, T.2.2.2.2.2.1, T.2.2.2.2.2.2.1, T.2.2.2.2.2.2.2.1, fun x => if x = b then some (lawF L.2.1 L.2.2) else tLw T x)) (fun _ => rfl) (fun _ => rfl) (fun _ => rfl)]
      exact t10 b' hb'
    · unfold MPile
      rw [am 17 (by decide)]
      exact t12
    · intro b' hb' hb2
      rw [y12', y13', upd_ne (by omega), upd_ne (by omega)]
      exact t14 b' hb' hb2
    · intro b' hb'
      show match (if b' = b then some L.2 else lw b') with
        | none => A5 (d + 4) b' = -1 ∧ A4 18 (6 * sd + b') = A4 19 (6 * sd + b')
        | some x => OkB x.1 x.2 ∧ (∃ st, A5 (d + 4) b' = nI st ∧ LayC A5 d x.1 x.2 st ∧ st + szC x.1 x.2 ≤ cc + szC L.2.1 L.2.2) ∧ ∃ b0 c0, LayM A4 x.1 x.2 b0 c0 ∧ (130 * sd ≤ b0 ∧ b0 + x.1.length + 1 ≤ br + L.2.1.length + 1) ∧ (420 * sd ≤ c0 ∧ c0 + szL x.1 x.2 ≤ cm + szL L.2.1 L.2.2) ∧ A4 18 (6 * sd + b') = nI b0 ∧ A4 19 (6 * sd + b') = nI (b0 + x.1.length + 1)
      by_cases eb : b' = b
      · rw [if_pos eb, eb, y7', y12', y13', upd_at, upd_at, upd_at]
        exact ⟨n4, ⟨cc, rfl, y6, Nat.le_refl _⟩, br, cm, y11, ⟨u5, Nat.le_refl _⟩, ⟨u2, Nat.le_refl _⟩, rfl, rfl⟩
      · rw [if_neg eb, y7', y12', y13', upd_ne eb, upd_ne (by omega), upd_ne (by omega)]
        have := t15 b' hb'
        cases hq : lw b' with
        | none => rw [hq] at this; exact this
        | some y =>
          rw [hq] at this
          obtain ⟨k1, ⟨st, k2, k3, k4⟩, b0, c0, k5, ⟨k6, k7⟩, ⟨k8, k9⟩, k10⟩ := this
          exact ⟨k1, ⟨st, k2, k3.eq (fun j _ h2 => y5 j (by omega)), by omega⟩, b0, c0, k5.eq (fun j _ h2 => ⟨o3.2.2.1 20 j (by decide) (by decide) (Or.inl (by omega)), o3.2.2.1 21 j (by decide) (by decide) (Or.inl (by omega)), o3.2.2.1 22 j (by decide) (by decide) (Or.inl (by omega)), o3.2.2.1 23 j (by decide) (by decide) (Or.inl (by omega)), o3.2.2.1 24 j (by decide) (by decide) (Or.inl (by omega))⟩) (fun j _ h2 => o3.2.2.2.1 j (Or.inl (by omega))), ⟨k6, by omega⟩, ⟨k8, by omega⟩, k10⟩
  · obtain ⟨j, j1, j2⟩ := hj
    subst j2
    obtain ⟨F4, x4, sl', h7, h8, h9, h10, h11⟩ := c_knwB (Fc := F3) (Ac := Ac) (Bc := Bc) (r := r) (nc := nc) hd hr sc3 j1 (by rw [fo3 d d37]; exact q5) nc6
    have f45 : F4 d 5 = nI cc := by rw [h8 d d37, fo3 d d37]; exact q7
    have cp4 : CPo F4 PL (stp K 61 (stp K 16 (stp K 1 (0, t)))).1 (stp K 61 (stp K 16 (stp K 1 (0, t)))).2 := by
      unfold CPo at c2 ⊢
      rw [h9 2 (by decide) (by decide), h9 3 (by decide) (by decide), h9 4 (by decide) (by decide)]
      exact c2
    have hz : ¬ F4 37 3 = 0 := by rw [cp4.1]; exact nI_ne0 (by omega) (by omega)
    have hz' : ¬ G3 13 = 0 := by rw [i2.1]; exact nI_ne0 (by omega) (by omega)
    have n4 : ¬ (4 : Int32) < nI 0 := by decide
    have crun : fX3_tellHeavy 37 (mkC Fc Ac Bc r) = fX3_tellHeavy_b37 FU 37 x4 (nI cc) (nI 0) (mkC F4 Ac Bc r) := by
      unfold fX3_tellHeavy
      simp -implicitDefEqProofs (disch := first | assumption | omega | decide | exact And.intro (by omega) (by omega)) only [cck_0, cr0_0, cr0_1, cr0_2, cr0_3, cg0_4, cp0_4, cg0_5, cp0_5, cck_1, cg1_0, cp1_0, cr1_1, cr1_2, cr1_3, cg1_4, cp1_4, cg1_5, cp1_5, cr1_6, cr1_7, cck_2, cr2_0, cr2_1, cr2_2, cck_3, cr3_0, cr3_1, cg3_2, cp3_2, cg3_3, cp3_3, cg3_4, cp3_4, cg3_5, cp3_5, cg3_6, cp3_6, cg3_7, cp3_7, cg3_8, cp3_8, cck_4, cg4_0, cp4_0, cg4_1, cp4_1, cr4_2, cr4_3, cr4_4, cr4_5, cck_5, cg5_0, cp5_0, cr5_1, cr5_2, cr5_3, cck_6, cg6_0, cp6_0, cg6_1, cp6_1, cck_7, cg7_0, cp7_0, cg7_1, cp7_1, cr7_2, cr7_3, cr7_4, cr7_5, cr7_6, cr7_7, cr7_8, cck_8, cr8_0, cr8_1, cck_9, cr9_0, cr9_1, cr9_2, cr9_3, cg9_4, cp9_4, cck_10, cg10_0, cp10_0, cr10_1, cr10_2, cr10_3, cr10_4, cg10_5, cp10_5, cr10_6, cr10_7, cr10_8, cg10_9, cp10_9, cg10_10, cp10_10, cr10_11, cr10_12, cr10_13, cr10_14, cck_11, cr11_0, cg11_1, cp11_1, cr11_2, cr11_3, cr11_4, cr11_5, cr11_6, cr11_7, cr11_8, cr11_9, cr11_10, cr11_11, cr11_12, cr11_13, cr11_14, ca_30, cs_30, ca_31, cs_31, ca_32, cs_32, ca_33, cs_33, ca_34, cs_34, ca_35, cs_35, ca_36, cs_36, ca_37, cs_37, ca_38, cs_38, ca_39, cs_39, ca_40, cs_40, ca_41, cs_41, ca_42, cs_42, car_20, car_21, car_22, cq11_3, cq11_4, cq3_1, cq0_0, cq0_1, if_true, if_false, Option.bind_some, cb_e, lt_e, nI_1, hs_nar2, nh4, upd_at, vau_at, ca_42_0, cs_42_0, a1', b1', c1', h7, hrx, f45]
      rfl
    have st1 : fX3_tellHeavy_b37 FU 37 x4 (nI cc) (nI 0) (mkC F4 Ac Bc r) = fX3_tellHeavy_b158 37 x4 (nI cc) (mkC F4 Ac Bc r) := by
      rw [hQ, fX3_tellHeavy_b37]
      simp -implicitDefEqProofs (disch := first | assumption | omega | decide | exact And.intro (by omega) (by omega)) only [cck_0, cr0_0, cr0_1, cr0_2, cr0_3, cg0_4, cp0_4, cg0_5, cp0_5, cck_1, cg1_0, cp1_0, cr1_1, cr1_2, cr1_3, cg1_4, cp1_4, cg1_5, cp1_5, cr1_6, cr1_7, cck_2, cr2_0, cr2_1, cr2_2, cck_3, cr3_0, cr3_1, cg3_2, cp3_2, cg3_3, cp3_3, cg3_4, cp3_4, cg3_5, cp3_5, cg3_6, cp3_6, cg3_7, cp3_7, cg3_8, cp3_8, cck_4, cg4_0, cp4_0, cg4_1, cp4_1, cr4_2, cr4_3, cr4_4, cr4_5, cck_5, cg5_0, cp5_0, cr5_1, cr5_2, cr5_3, cck_6, cg6_0, cp6_0, cg6_1, cp6_1, cck_7, cg7_0, cp7_0, cg7_1, cp7_1, cr7_2, cr7_3, cr7_4, cr7_5, cr7_6, cr7_7, cr7_8, cck_8, cr8_0, cr8_1, cck_9, cr9_0, cr9_1, cr9_2, cr9_3, cg9_4, cp9_4, cck_10, cg10_0, cp10_0, cr10_1, cr10_2, cr10_3, cr10_4, cg10_5, cp10_5, cr10_6, cr10_7, cr10_8, cg10_9, cp10_9, cg10_10, cp10_10, cr10_11, cr10_12, cr10_13, cr10_14, cck_11, cr11_0, cg11_1, cp11_1, cr11_2, cr11_3, cr11_4, cr11_5, cr11_6, cr11_7, cr11_8, cr11_9, cr11_10, cr11_11, cr11_12, cr11_13, cr11_14, ca_30, cs_30, ca_31, cs_31, ca_32, cs_32, ca_33, cs_33, ca_34, cs_34, ca_35, cs_35, ca_36, cs_36, ca_37, cs_37, ca_38, cs_38, ca_39, cs_39, ca_40, cs_40, ca_41, cs_41, ca_42, cs_42, car_20, car_21, car_22, cq11_3, cq11_4, cq3_1, cq0_0, cq0_1, if_true, if_false, Option.bind_some, cb_e, lt_e, nI_1, hs_nar2, nh4, upd_at, vau_at, ca_42_0, cs_42_0, if_neg n4, if_neg hz]
    have st2 : fX12_tellLaw_b12 FU 0 x (nI br) (nI 0) (mkM G3 A B) = fX12_tellLaw_b129 0 x (nI br) (mkM G3 A B) := by
      rw [hQ, fX12_tellLaw_b12]
      simp -implicitDefEqProofs (disch := first | assumption | omega | decide | exact And.intro (by omega) (by omega)) only [mck, mg_0, mp_0, mr_1, mg_2, mp_2, mr_3, mg_4, mp_4, mr_5, mr_6, mr_7, mr_8, mr_9, mg_10, mp_10, mg_11, mp_11, mg_12, mp_12, mg_13, mp_13, mg_14, mp_14, mg_15, mp_15, mg_16, mp_16, mg_17, mp_17, mg_18, mp_18, mg_19, mp_19, mg_20, mp_20, mr_21, mr_22, mr_23, mr_24, mr_25, mr_26, mr_27, mr_28, mr_29, mr_30, mr_31, mr_32, mg_33, mp_33, mr_34, mr_35, mr_36, mr_37, mr_38, mg_39, mp_39, mr_40, mr_41, mr_42, mg_43, mp_43, mr_44, mr_45, mg_46, mp_46, mr_47, mr_48, mg_49, mp_49, mg_50, mp_50, mg_51, mp_51, mr_52, mr_53, mr_54, mg_55, mp_55, mr_56, mr_57, mg_58, mp_58, mg_59, mp_59, mg_60, mp_60, mr_61, mg_62, mp_62, mr_63, mr_64, mr_65, mr_66, mr_67, mr_68, ma_1, ms_1, ma_2, ms_2, ma_3, ms_3, ma_4, ms_4, ma_5, ms_5, ma_6, ms_6, ma_7, ms_7, ma_8, ms_8, ma_9, ms_9, ma_10, ms_10, ma_11, ms_11, ma_12, ms_12, ma_13, ms_13, ma_14, ms_14, ma_15, ms_15, ma_16, ms_16, ma_17, ms_17, ma_18, ms_18, ma_19, ms_19, ma_20, ms_20, ma_21, ms_21, ma_22, ms_22, ma_23, ms_23, ma_24, ms_24, ma_25, ms_25, ma_26, ms_26, ma_27, ms_27, ma_28, ms_28, ma_29, ms_29, ma_30, ms_30, ma_31, ms_31, ma_32, ms_32, ma_33, ms_33, ma_34, ms_34, ma_35, ms_35, ma_36, ms_36, ma_37, ms_37, ma_38, ms_38, ma_39, ms_39, ma_40, ms_40, ma_41, ms_41, ma_42, ms_42, ma_43, ms_43, if_true, if_false, Option.bind_some, cb_e, lt_e, nI_1, hs_nar2, nh4, upd_at, vau_at, ma_30_18, ms_30_18, ma_31_18, ms_31_18, ma_28_0, ms_28_0, ma_28_1, ms_28_1, ma_28_2, ms_28_2, ma_28_3, ms_28_3, ma_28_4, ms_28_4, ma_42_0, ms_42_0, ma_42_1, ms_42_1, ma_42_2, ms_42_2, ma_36_0, ms_36_0, if_neg hz']
    obtain ⟨F5, A5, r1, r2, r3, r4⟩ := c_lst (B := Bc) (V := V) (PL := PL) (x2 := x4) (x3 := nI cc) (sl := sl') (ob := none) (s := stp K 61 (stp K 16 (stp K 1 (0, t)))) hK hd hr l10 l11 cp4 f45 cc4 (fun q => absurd q cz) ck ⟨h10, h11⟩ (fun q => absurd q cz)
    obtain ⟨G4, A4, o1, o2, o3, o4⟩ := m_lst (B := B) (V := V) (PL := PL) (cb := 420 * sd) (lb := 130 * sd + 130) (c := cm) (ob := none) (x1 := x) (x2 := nI br) (s := stp K 61 (stp K 16 (stp K 1 (0, t)))) cb420 psd hK l10 l11 i2 mtk (fun q => absurd q cz) g333 brl lb260 g319 (fun q => absurd q cz)
    rw [exs_F cz, stp_F cz] at r2 o2
    have mf1 : MFm sd F G3 A A B B := ⟨fun k z1 _ _ _ _ => Gfo k z1, fun _ _ _ => rfl, fun _ _ => rfl⟩
    exact ⟨F5, A5, Bc, G4, A4, B, _, _, crun.trans (st1.trans r1), mrun _ (st2.trans o1), ⟨fun c z1 z2 _ => by rw [r3.1 c z1 z2, h8 c z1, fo3 c z1], fun c z => r3.2.2.2 c (by omega) (by omega) (by omega), fun _ _ => rfl⟩, mf1.tr (o3.fm u5 (Nat.le_refl _) u2), fun q => absurd q cz, fun _ => ⟨r2, o2⟩⟩
end L9d
