/-! ===== a fly is told, in both ===== -/
section Y95
variable {d sd M : Nat} {K V : Nat → Nat} {NM : Nat → List Nat} {PL : Nat → Nat} {r : Nat → Nat} {Fc Ac : Nat → Nat → Int32} {Bc : Nat → Nat → Int64} {F : Nat → Int32} {A : Nat → Nat → Int32} {B : Nat → Nat → Int64} {t : Nat}
theorem slY_n0 {w : Nat × Nat} {un : Bool} {h j : Nat} (hw : ¬ w.1 = 0) : slY V PL w un h j = w := by
  unfold slY
  rw [slp_n0 (b := decide (V j < 0 ∨ 99 < V j)) hw, slp_n0 (b := un) hw, slp_n0 hw]
theorem slY_0 {w : Nat × Nat} {un : Bool} {h j : Nat} (hw : (slY V PL w un h j).1 = 0) : w.1 = 0 ∧ un = false ∧ V j ≤ 99 ∧ V (j + 3) ≤ h := by
  unfold slY at hw
  obtain ⟨h1, h2⟩ := slp_0 (by decide) hw
  obtain ⟨h3, h4⟩ := slp_0 (by decide) h1
  obtain ⟨h5, h6⟩ := slp_0 (by decide) h3
  have i2 := of_decide_eq_false h2
  have i6 := of_decide_eq_false h6
  exact ⟨h5, h4, by omega, by omega⟩
theorem slY_lt {w : Nat × Nat} {un : Bool} {h j q : Nat} (hw : ¬ w.1 = 0 → w.2 < PL j) (hm : ∀ a, a ≤ j + 3 → j ≤ a → PL a < PL q) : ¬ (slY V PL w un h j).1 = 0 → (slY V PL w un h j).2 < PL q := by
  unfold slY
  exact slp_lt (p0 := PL q) (slp_lt (p0 := PL q) (slp_lt (p0 := PL j) hw (Nat.le_of_lt (hm j (by omega) (by omega))) (hm j (by omega) (by omega))) (Nat.le_refl _) (hm (j + 2) (by omega) (by omega))) (Nat.le_refl _) (hm (j + 3) (by omega) (by omega))
theorem flyL_eqm {T T' : TD} (b : Nat) : ∀ m, (∀ f, f < m → tFb T' f = tFb T f ∧ tFw T' f = tFw T f ∧ tFa T' f = tFa T f) → flyL T' b m = flyL T b m ∧ flyT T' b m = flyT T b m
  | 0, _ => ⟨rfl, rfl⟩
  | m + 1, h => by
    have i := flyL_eqm b m (fun f hf => h f (by omega))
    obtain ⟨h1, h2, h3⟩ := h m (by omega)
    rw [flyL, flyL, flyT, flyT, i.1, i.2, h1, h2, h3]
    exact ⟨rfl, rfl⟩
theorem iI_toNat {x : Int} (h : 0 ≤ x) : iI x = nI x.toNat := by
  rw [iI_nI, Int.toNat_of_nonneg h]
set_option maxHeartbeats 8000000 in
theorem t_fly (hd : d = 7 ∨ d = 22) (hr : r 2 = d) (h : Rd d sd M K V NM PL Fc Ac Bc F A B t) (e : K t = 4) : Tells d sd M K V NM PL r (fX3_tellFly 37) (fX12_tell 0) Fc Ac Bc F A B t := by
  obtain ⟨⟨ht, tk, hcp, hmp⟩, sl, sp, nb, nf, nc, cc, cm, br, g, hP, hT⟩ := h
  have hK := tk.tk
  obtain ⟨ck, mk⟩ := tk.cm
  have hM := hK.1
  obtain ⟨⟨p12, p19, psd⟩, ⟨s5, csl, msl, spl, sp0⟩, ⟨p5, p6, p7, p8, p9⟩, ⟨q1, q2, q3⟩, ⟨q4, q5, q6⟩, ⟨q7, q8⟩, ⟨u1, u2, u3⟩, ⟨u4, u5, u6⟩, ⟨v1, v2, v3⟩, v4, v5, v6⟩ := id hP
  obtain ⟨y, y1, y2, y3⟩ := hmp.2.1
  rw [y3 rfl] at y2
  have ht403 : t < 403 := by omega
  have k3 : A 3 t = (26 : Int32) := by rw [(mk t ht).1, e]; rfl
  have sd2 : sd < 2 := by omega
  obtain ⟨G1, g1, g2, g3⟩ := m_room (B := B) (nb := nf) hK ht hmp mk e (by decide) q1
  have head : fX12_tell 0 (mkM F A B) = (if G1 13 = 0 then (cb (fX12_tellFly 0 (mkM G1 A B)) fun _ s => some ((), s)) else some ((), mkM G1 A B)) := by
    unfold fX12_tell
    rw [mck, mr_5, Option.bind_some, mg_11, Option.bind_some, y2, ma_3 _ _ _ ht403, Option.bind_some, k3, if_neg (show ¬ (26 : Int32) = 20 by decide), if_neg (show ¬ (26 : Int32) = 21 by decide), if_neg (show ¬ (26 : Int32) = 22 by decide), if_neg (show ¬ (26 : Int32) = 23 by decide), if_neg (show ¬ (26 : Int32) = 24 by decide), if_neg (show ¬ (26 : Int32) = 25 by decide), if_pos rfl]
    simp -implicitDefEqProofs (disch := first | assumption | omega | decide | exact And.intro (by omega) (by omega)) only [mck, mg_0, mp_0, mr_1, mg_2, mp_2, mr_3, mg_4, mp_4, mr_5, mr_6, mr_7, mr_8, mr_9, mg_10, mp_10, mg_11, mp_11, mg_12, mp_12, mg_13, mp_13, mg_14, mp_14, mg_15, mp_15, mg_16, mp_16, mg_17, mp_17, mg_18, mp_18, mg_19, mp_19, mg_20, mp_20, mr_21, mr_22, mr_23, mr_24, mr_25, mr_26, mr_27, mr_28, mr_29, mr_30, mr_31, mr_32, mg_33, mp_33, mr_34, mr_35, mr_36, mr_37, mr_38, mg_39, mp_39, mr_40, mr_41, mr_42, mg_43, mp_43, mr_44, mr_45, mg_46, mp_46, mr_47, mr_48, mg_49, mp_49, mg_50, mp_50, mg_51, mp_51, mr_52, mr_53, mr_54, mg_55, mp_55, mr_56, mr_57, mg_58, mp_58, mg_59, mp_59, mg_60, mp_60, mr_61, mg_62, mp_62, mr_63, mr_64, mr_65, mr_66, mr_67, mr_68, ma_1, ms_1, ma_2, ms_2, ma_3, ms_3, ma_4, ms_4, ma_5, ms_5, ma_6, ms_6, ma_7, ms_7, ma_8, ms_8, ma_9, ms_9, ma_10, ms_10, ma_11, ms_11, ma_12, ms_12, ma_13, ms_13, ma_14, ms_14, ma_15, ms_15, ma_16, ms_16, ma_17, ms_17, ma_18, ms_18, ma_19, ms_19, ma_20, ms_20, ma_21, ms_21, ma_22, ms_22, ma_23, ms_23, ma_24, ms_24, ma_25, ms_25, ma_26, ms_26, ma_27, ms_27, ma_28, ms_28, ma_29, ms_29, ma_30, ms_30, ma_31, ms_31, ma_32, ms_32, ma_33, ms_33, ma_34, ms_34, ma_35, ms_35, ma_36, ms_36, ma_37, ms_37, ma_38, ms_38, ma_39, ms_39, ma_40, ms_40, ma_41, ms_41, ma_42, ms_42, ma_43, ms_43, if_true, if_false, Option.bind_some, cb_e, lt_e, nI_1, hs_nar2, nh4, upd_at, vau_at, ma_30_18, ms_30_18, ma_31_18, ms_31_18, ma_28_0, ms_28_0, ma_28_1, ms_28_1, ma_28_2, ms_28_2, ma_28_3, ms_28_3, ma_28_4, ms_28_4, ma_42_0, ms_42_0, ma_42_1, ms_42_1, ma_42_2, ms_42_2, ma_36_0, ms_36_0, p19, q3, g1]
  by_cases c6 : nf = 6
  · rw [if_pos c6, if_pos c6] at g2
    have f13 : ¬ G1 13 = 0 := by rw [g2.1]; exact nI_ne0 (by decide) (by decide)
    obtain ⟨F1, a1, a2, a3, a4⟩ := c_fail (B := Bc) (r := r) hK ht hcp ck (n := 2) (by decide) (by decide)
    have a1' : fX3_fail 37 2 (mkC Fc Ac Bc r) = some ((), mkC F1 Ac Bc r) := a1
    rw [c6] at q2
    have q2' : Fc 37 8 = (6 : Int32) := q2
    refine ⟨F1, Ac, Bc, G1, A, B, 2, t, ?_, by rw [head, if_neg f13], ⟨fun c q1 _ _ => a3 c q1, fun _ _ => rfl, fun _ _ => rfl⟩, ⟨fun k q1 _ _ _ _ => g3 k (by omega) (by omega) (by omega), fun _ _ _ => rfl, fun _ _ => rfl⟩, fun q => absurd q (by decide), fun _ => ⟨a2, g2⟩⟩
    unfold fX3_tellFly
    simp -implicitDefEqProofs (disch := first | assumption | omega | decide | exact And.intro (by omega) (by omega)) only [cck_0, cr0_0, cr0_1, cr0_2, cr0_3, cg0_4, cp0_4, cg0_5, cp0_5, cck_1, cg1_0, cp1_0, cr1_1, cr1_2, cr1_3, cg1_4, cp1_4, cg1_5, cp1_5, cr1_6, cr1_7, cck_2, cr2_0, cr2_1, cr2_2, cck_3, cr3_0, cr3_1, cg3_2, cp3_2, cg3_3, cp3_3, cg3_4, cp3_4, cg3_5, cp3_5, cg3_6, cp3_6, cg3_7, cp3_7, cg3_8, cp3_8, cck_4, cg4_0, cp4_0, cg4_1, cp4_1, cr4_2, cr4_3, cr4_4, cr4_5, cck_5, cg5_0, cp5_0, cr5_1, cr5_2, cr5_3, cck_6, cg6_0, cp6_0, cg6_1, cp6_1, cck_7, cg7_0, cp7_0, cg7_1, cp7_1, cr7_2, cr7_3, cr7_4, cr7_5, cr7_6, cr7_7, cr7_8, cck_8, cr8_0, cr8_1, cck_9, cr9_0, cr9_1, cr9_2, cr9_3, cg9_4, cp9_4, cck_10, cg10_0, cp10_0, cr10_1, cr10_2, cr10_3, cr10_4, cg10_5, cp10_5, cr10_6, cr10_7, cr10_8, cg10_9, cp10_9, cg10_10, cp10_10, cr10_11, cr10_12, cr10_13, cr10_14, cck_11, cr11_0, cg11_1, cp11_1, cr11_2, cr11_3, cr11_4, cr11_5, cr11_6, cr11_7, cr11_8, cr11_9, cr11_10, cr11_11, cr11_12, cr11_13, cr11_14, ca_30, cs_30, ca_31, cs_31, ca_32, cs_32, ca_33, cs_33, ca_34, cs_34, ca_35, cs_35, ca_36, cs_36, ca_37, cs_37, ca_38, cs_38, ca_39, cs_39, ca_40, cs_40, ca_41, cs_41, ca_42, cs_42, car_20, car_21, car_22, cq11_3, cq11_4, cq3_1, cq0_0, cq0_1, if_true, if_false, Option.bind_some, cb_e, lt_e, nI_1, hs_nar2, nh4, upd_at, vau_at, ca_42_0, cs_42_0, q2', a1']
  · rw [if_neg c6, if_neg c6] at g2
    have hpl : ∀ a, a ≤ M → PL a ≤ 2000 := fun a ha => (tk.2.1 a ha).2.2.2.1
    obtain ⟨h, hc, hm⟩ : ∃ h, (∀ b, fndN g (NM (t + 3)) nc 0 = some b → sl = 0 → Ac (d + 2) b = nI h ∧ h ≤ 9999) ∧ ∀ b, fndN g (NM (t + 3)) nb 0 = some b → sl = 0 → (A 10 (6 * sd + b) = nI h ∧ h ≤ 9999) ∧ h ≤ 99 := by
      by_cases c0 : sl = 0
      · obtain ⟨T, lw, P, ⟨t1, t2, t3, t4, t5⟩, t6, _⟩ := hT c0
        rw [t1]
        cases hq : fndN g (NM (t + 3)) nb 0 with
        | none => exact ⟨0, fun b q => (by cases q), fun b q => (by cases q)⟩
        | some b0 =>
          have ib := fndN_lt _ _ _ hq
          obtain ⟨⟨w1, w2⟩, _⟩ := t6 b0 (by omega)
          obtain ⟨w3, w4, _⟩ := t4.2.1 b0 (by rw [t2]; omega)
          rw [iI_toNat (by omega)] at w1 w2
          have le : (tLg T b0).toNat ≤ 99 := by omega
          refine ⟨(tLg T b0).toNat, fun b q _ => ?_, fun b q _ => ?_⟩
          · injection q with q
            rw [← q]
            exact ⟨w1, by omega⟩
          · injection q with q
            rw [← q]
            exact ⟨⟨w2, by omega⟩, le⟩
      · exact ⟨0, fun _ _ q => absurd q c0, fun _ _ q => absurd q c0⟩
    obtain ⟨F6, A6, x1, x2, x3, x4, ⟨x5, x5'⟩, x6, x7⟩ := c_fly (NM := NM) (w := (sl, sp)) (g := g) (nf := nf) (h := h) hd hr hK ht hcp ck (fun j hj q => ⟨((tk.2.1 j hj).2.2.2.2.2 q).1, ((tk.2.1 j hj).2.2.2.2.2 q).2.2⟩) ⟨s5, csl, fun q => (spl q).1, sp0⟩ q2 (by omega) q5 (by omega) (fun i hi => ⟨q6 i hi, (p9 i (by omega)).2⟩) (fun q => by
      obtain ⟨T, lw, P, _, _, _, ⟨t8, _⟩, _⟩ := hT q
      exact t8) hc
    have cf : CFm d Fc F6 Ac A6 Bc Bc := ⟨fun c k1 k2 _ => x3 c k1 k2, fun c hc => x6 c (by omega) (by omega) (by omega), fun _ _ => rfl⟩
    obtain ⟨⟨l1, l2, l3⟩, l4⟩ := stp_ok hK (k := 4) (s := (0, t)) (by decide) ht (Nat.zero_le _)
    by_cases cz1 : (stp K 4 (0, t)).1 = 0
    · obtain ⟨_, ez, _, t4⟩ := l4 cz1
      have es : stp K 4 (0, t) = (0, t + 1) := Prod.ext cz1 ez
      rw [es] at x2 x7 g2 l2
      have l2' : t + 1 ≤ M := l2
      have f13 : G1 13 = 0 := g2.1
      have mo : ∀ a b, a < b → b ≤ M → PL a < PL b := fun a b hab hb => tk.lt b a hab hb
      have splt : ¬ sl = 0 → sp < PL (t + 1) := fun q => Nat.lt_of_lt_of_le (spl q).2.2 (tk.le (by omega) l2')
      obtain ⟨G3, A3, x, y, z, j1, j2, j3, j4, j5, ⟨j6, j6', j6''⟩, j7, j8⟩ := m_fly (NM := NM) (B := B) (w := (sl, sp)) (sd := sd) (nb := nb) (nf := nf) (g := g) (h := h) (j := t + 1) hK psd l2' g2 mk (fun j hj q => ⟨((tk.2.1 j hj).2.2.2.2.2 q).2.1, ((tk.2.1 j hj).2.2.2.2.2 q).2.2⟩) (SlM.eq (F := F) ⟨s5, msl, fun q => (spl q).2.1⟩ g3) splt mo hpl (by rw [g3 19 (by decide) (by decide) (by decide)]; exact p19) (by rw [g3 20 (by decide) (by decide) (by decide)]; exact p8) (by omega) q3 (by omega) p9 (fun b q1 q2 => (hm b q1 q2).1)
      have F3o : ∀ k, ¬ (11 ≤ k ∧ k ≤ 16) → G3 k = F k := fun k q1 => by rw [j3 k q1, g3 k (by omega) (by omega) (by omega)]
      have mrun : fX12_tell 0 (mkM F A B) = some ((), mkM G3 A3 B) := by
        rw [head, if_pos f13, j1]
        rfl
      have eA13 : ∀ j, ¬ j = sd → A3 13 j = A 13 j := fun j hj => by
        by_cases cz : (stp K 59 (stp K 17 (stp K 16 (stp K 7 (stp K 17 (0, t + 1)))))).1 = 0
        · rw [(j8 cz).1, upd_ne hj]
        · rw [j7 cz]
      have mfm : MFm sd F G3 A A3 B B := by
        refine ⟨fun k q1 q2 q3 q4 q5 => F3o k q1, fun a j q => ?_, fun _ _ => rfl⟩
        by_cases a13 : a = 13
        · subst a13
          exact eA13 j (fun ej => q (Or.inl ⟨Or.inr (Or.inr rfl), ej⟩))
        · by_cases a14 : a = 14
          · subst a14
            rw [j6, upd_ne (fun ej => q (by unfold SReg; omega))]
          · by_cases a15 : a = 15
            · subst a15
              rw [j6', upd_ne (fun ej => q (by unfold SReg; omega))]
            · by_cases a16 : a = 16
              · subst a16
                rw [j6'', upd_ne (fun ej => q (by unfold SReg; omega))]
              · rw [j5 a a13 a14 a15 a16]
      by_cases cz : (stp K 59 (stp K 17 (stp K 16 (stp K 7 (stp K 17 (0, t + 1)))))).1 = 0
      · obtain ⟨m1, m2, m3⟩ := x7 cz
        obtain ⟨n1, n2, n3⟩ := j8 cz
        have n2' : SlM G3 (slY V PL (sl, sp) (decide (fndN g (NM (t + 3)) nb 0 = none)) h (t + 1)) := n2
        have n3' : (slY V PL (sl, sp) (decide (fndN g (NM (t + 3)) nb 0 = none)) h (t + 1)).1 = 0 → x = nI (V (t + 1)) ∧ y = rF (-1) (fndN g (NM (t + 3)) nb 0) ∧ z = nI (V (t + 4)) := n3
        have eun : slY V PL (sl, sp) (decide (fndN g (NM (t + 3)) nc 0 = none)) h (t + 1) = slY V PL (sl, sp) (decide (fndN g (NM (t + 3)) nb 0 = none)) h (t + 1) := by
          by_cases c0 : sl = 0
          · obtain ⟨T, lw, P, ⟨t1, _⟩, _⟩ := hT c0
            rw [t1]
          · rw [slY_n0 (w := (sl, sp)) c0, slY_n0 (w := (sl, sp)) c0]
        rw [eun] at m1 m2 m3
        obtain ⟨⟨i1, i2, i3⟩, i4⟩ := stp_ok hK (k := 17) (s := (0, t + 1)) (by decide) l2' (Nat.zero_le _)
        obtain ⟨⟨i5, i6, i7⟩, i8⟩ := stp_ok hK (k := 7) (s := stp K 17 (0, t + 1)) (by decide) i2 i3
        obtain ⟨⟨i9, i10, i11⟩, i12⟩ := stp_ok hK (k := 16) (s := stp K 7 (stp K 17 (0, t + 1))) (by decide) i6 i7
        obtain ⟨⟨i13, i14, i15⟩, i16⟩ := stp_ok hK (k := 17) (s := stp K 16 (stp K 7 (stp K 17 (0, t + 1)))) (by decide) i10 i11
        obtain ⟨⟨i17, i18, i19⟩, i20⟩ := stp_ok hK (k := 59) (s := stp K 17 (stp K 16 (stp K 7 (stp K 17 (0, t + 1))))) (by decide) i14 i15
        obtain ⟨z1, z2, z3, z4⟩ := i20 cz
        obtain ⟨z5, z6, z7, z8⟩ := i16 z1
        obtain ⟨z9, z10, z11, z12⟩ := i12 z5
        obtain ⟨z13, z14, z15, z16⟩ := i8 z9
        obtain ⟨z17, z18, z19, z20⟩ := i4 z13
        have e5 : (stp K 59 (stp K 17 (stp K 16 (stp K 7 (stp K 17 (0, t + 1)))))).2 = t + 6 := by rw [z2, z6, z10, z14, z18]
        rw [cz, e5] at x2 j2
        have lM : t + 6 ≤ M := by rw [← e5]; exact i18
        have w3lt : ¬ (slY V PL (sl, sp) (decide (fndN g (NM (t + 3)) nb 0 = none)) h (t + 1)).1 = 0 → (slY V PL (sl, sp) (decide (fndN g (NM (t + 3)) nb 0 = none)) h (t + 1)).2 < PL (t + 6) := slY_lt (w := (sl, sp)) splt (fun a h1 h2 => mo _ _ (by omega) lM)
        have d37 : ¬ d = 37 := by omega
        have f12 : G3 12 = 0 := by rw [j4, g3 12 (by decide) (by decide) (by decide)]; exact p12
        refine ⟨F6, A6, Bc, G3, A3, B, 0, t + 6, x1, mrun, cf, mfm, fun _ => ⟨by omega, ⟨lM, tk.fm hd cf mfm, x2, j2⟩, (slY V PL (sl, sp) (decide (fndN g (NM (t + 3)) nb 0 = none)) h (t + 1)).1, (slY V PL (sl, sp) (decide (fndN g (NM (t + 3)) nb 0 = none)) h (t + 1)).2, nb, nf + 1, nc, cc, cm, br, g, ?_, ?_⟩, fun q => absurd rfl q⟩
        · refine ⟨⟨f12, by rw [F3o 19 (by decide)]; exact p19, psd⟩, ⟨m1.1, m1.2.1, n2'.2.1, fun q => ⟨m1.2.2.1 q, n2'.2.2 q, w3lt q⟩, m1.2.2.2⟩, ⟨p5, by rw [x5']; exact p6, by rw [j5 9 (by decide) (by decide) (by decide) (by decide)]; exact p7, by rw [F3o 20 (by decide)]; exact p8, p9⟩, ⟨by omega, x5, by rw [n1, upd_at]⟩, ⟨q4, by rw [x4 0 (by decide)]; exact q5, q6⟩, ⟨by rw [x4 5 (by decide)]; exact q7, by omega⟩, ⟨by rw [F3o 39 (by decide)]; exact u1, u2, by omega⟩, ⟨by rw [F3o 33 (by decide)]; exact u4, u5, by omega⟩, ?_, v4, v5, by rw [x3 (d + 11) (by omega) (by omega)]; exact v6⟩
          by_cases c3 : (slY V PL (sl, sp) (decide (fndN g (NM (t + 3)) nb 0 = none)) h (t + 1)).1 = 0
          · obtain ⟨b, _, o2, _⟩ := m3 c3
            exact ⟨nf + 1, Nat.le_refl _, o2⟩
          · exact ⟨v1, by omega, by rw [m2 c3]; exact v3⟩
        · intro c3
          obtain ⟨b, o1, o2, o3, o4, o5⟩ := m3 c3
          obtain ⟨ex, ey, ez⟩ := n3' c3
          obtain ⟨sl0, _, in1, in2⟩ := slY_0 c3
          obtain ⟨T, lw, P, ⟨t1, t2, t3, t4, t5⟩, t6, t7, ⟨t8, t9, t10⟩, ⟨t11, t12, t13⟩, t14, t15⟩ := hT sl0
          rw [t1] at o1
          rw [o1] at ey
          have ey' : y = nI b := ey
          have ib := fndN_lt _ _ _ o1
          have h99 := (hm b o1 sl0).2
          have in2' : V (t + 4) ≤ h := in2
          generalize hT' : ((T.1, T.2.1, T.2.2.1, tTb T, nf + 1, (fun f => if f = nf then b else tFb T f), (fun f => if f = nf then (V (t + 1) : Int) else tFw T f), (fun f => if f = nf then (V (t + 4) : Int) else tFa T f), tLw T) : TD) = T'
          have T1 : tNb T' = tNb T := by rw [← hT']
          have T2 : tLg T' = tLg T := by rw [← hT']
          have T3 : tWt T' = tWt T := by rw [← hT']
          have T4 : tTb T' = tTb T := by rw [← hT']
          have T5 : tNf T' = nf + 1 := by rw [← hT']
          have T6 : tFb T' = fun f => if f = nf then b else tFb T f := by rw [← hT']
          have T7 : tFw T' = fun f => if f = nf then (V (t + 1) : Int) else tFw T f := by rw [← hT']
          have T8 : tFa T' = fun f => if f = nf then (V (t + 4) : Int) else tFa T f := by rw [← hT']
          have T9 : tLw T' = tLw T := by rw [← hT']
          refine ⟨T', lw, P, ⟨t1, by rw [T1]; exact t2, T5, ?_, by rw [T9]; exact t5⟩, ?_, ⟨?_, ?_⟩, ⟨o2, ?_, ?_⟩, ⟨t11.eq (x3 (d + 11) (by omega) (by omega)) (x6 _ (by omega) (by omega) (by omega)) (x6 _ (by omega) (by omega) (by omega)) (x6 _ (by omega) (by omega) (by omega)), ?_, t13⟩, ?_, ?_⟩
          · unfold GoodT
            rw [T1, T2, T3, T4, T5, T6, T7, T8]
            refine ⟨t4.1, t4.2.1, t4.2.2.1, by omega, fun f hf => ?_⟩
            by_cases eb : f = nf
            · simp only [if_pos eb]
              rw [t2]
              omega
            · simp only [if_neg eb]
              exact t4.2.2.2.2 f (by rw [t3]; omega)
          · rw [T2, T3, x6 (d + 2) (by omega) (by omega) (by omega), x6 (d + 3) (by omega) (by omega) (by omega), j5 10 (by decide) (by decide) (by decide) (by decide), j5 11 (by decide) (by decide) (by decide) (by decide)]
            exact t6
          · rw [T4, x4 9 (by decide)]
            exact t7.1
          · rw [T4, j5 12 (by decide) (by decide) (by decide) (by decide)]
            exact t7.2
          · intro f hf
            rw [T6, T7, T8, o3, j6, j6', j6'', ex, ey', ez]
            by_cases ef : f = nf
            · simp only [if_pos ef]
              rw [ef, upd_at, upd_at, upd_at, upd_at]
              exact ⟨rfl, rfl, rfl, rfl⟩
            · simp only [if_neg ef]
              rw [upd_ne ef, upd_ne (by omega), upd_ne (by omega), upd_ne (by omega)]
              exact t9 f (by omega)
          · intro b' hb'
            obtain ⟨i1, i2⟩ := flyL_eqm (T := T) (T' := T') b' nf (fun f hf => by
              rw [T6, T7, T8]
              exact ⟨if_neg (show ¬ f = nf by omega), if_neg (show ¬ f = nf by omega), if_neg (show ¬ f = nf by omega)⟩)
            obtain ⟨k1, k2⟩ := t10 b' hb'
            rw [flyL, flyT, i1, i2, T6, T7, T8, o4, o5]
            simp only [if_true]
            by_cases eb : b' = b
            · rw [eb, upd_at, upd_at, if_pos rfl, if_pos rfl]
              rw [eb] at k1 k2
              rw [k1, k2, ← iI_add, ← iI_add, ← iI_mul]
              exact ⟨rfl, rfl⟩
            · rw [upd_ne eb, upd_ne eb, if_neg (fun q => eb q.symm), if_neg (fun q => eb q.symm), Int.add_zero, Int.add_zero]
              exact ⟨k1, k2⟩
          · unfold MPile
            rw [j5 17 (by decide) (by decide) (by decide) (by decide)]
            exact t12
          · rw [j5 18 (by decide) (by decide) (by decide) (by decide), j5 19 (by decide) (by decide) (by decide) (by decide)]
            exact t14
          · intro b' hb'
            rw [j5 18 (by decide) (by decide) (by decide) (by decide), j5 19 (by decide) (by decide) (by decide) (by decide), x6 (d + 4) (by omega) (by omega) (by omega)]
            have := t15 b' hb'
            cases hq : lw b' with
            | none => rw [hq] at this; exact this
            | some y =>
              rw [hq] at this
              obtain ⟨k1, ⟨st, k2, k3, k4⟩, b0, c0, k5, k6⟩ := this
              exact ⟨k1, ⟨st, k2, k3.eq (fun j _ _ => ⟨by rw [x6 (d + 5) (by omega) (by omega) (by omega)], by rw [x6 (d + 6) (by omega) (by omega) (by omega)]⟩), k4⟩, b0, c0, k5.eq (fun j _ _ => ⟨by rw [j5 20 (by decide) (by decide) (by decide) (by decide)], by rw [j5 21 (by decide) (by decide) (by decide) (by decide)], by rw [j5 22 (by decide) (by decide) (by decide) (by decide)], by rw [j5 23 (by decide) (by decide) (by decide) (by decide)], by rw [j5 24 (by decide) (by decide) (by decide) (by decide)]⟩) (fun j _ _ => ⟨by rw [j5 25 (by decide) (by decide) (by decide) (by decide)], by rw [j5 26 (by decide) (by decide) (by decide) (by decide)]⟩), k6⟩
      · exact ⟨F6, A6, Bc, G3, A3, B, _, _, x1, mrun, cf, mfm, fun q => absurd q cz, fun _ => ⟨x2, j2⟩⟩
    · have f13 : ¬ G1 13 = 0 := by rw [g2.1]; exact nI_ne0 (by omega) (by omega)
      have e1 : stp K 59 (stp K 17 (stp K 16 (stp K 7 (stp K 17 (stp K 4 (0, t)))))) = stp K 4 (0, t) := by
        rw [stp_F (k := 17) cz1, stp_F (k := 7) cz1, stp_F (k := 16) cz1, stp_F (k := 17) cz1, stp_F (k := 59) cz1]
      rw [e1] at x2
      exact ⟨F6, A6, Bc, G1, A, B, _, _, x1, by rw [head, if_neg f13], cf, ⟨fun k q1 _ _ _ _ => g3 k (by omega) (by omega) (by omega), fun _ _ _ => rfl, fun _ _ => rfl⟩, fun q => absurd q cz1, fun _ => ⟨x2, g2⟩⟩
end Y95
