/-! ===== a book is told, in both ===== -/
section B92
variable {d sd M : Nat} {K V : Nat → Nat} {NM : Nat → List Nat} {PL : Nat → Nat} {r : Nat → Nat} {Fc Ac : Nat → Nat → Int32} {Bc : Nat → Nat → Int64} {F : Nat → Int32} {A : Nat → Nat → Int32} {B : Nat → Nat → Int64} {t : Nat}
theorem stp_F {k : Nat} {s : Nat × Nat} (h : ¬ s.1 = 0) : stp K k s = s := by
  unfold stp
  rw [if_neg h]
theorem m_room {nb k : Nat} (hK : TkK M K V) (ht : t ≤ M) (h : MPo F PL 0 t) (hk : MTk A M K V PL) (e : K t = k) (hk18 : ¬ k = 18) (hnb : nb ≤ 6) : ∃ F', fX12_roomFor 0 (nI nb) 6 (mkM F A B) = some ((), mkM F' A B) ∧ MPo F' PL (if nb = 6 then 2 else (stp K k (0, t)).1) (if nb = 6 then t else (stp K k (0, t)).2) ∧ ∀ k, ¬ k = 11 → ¬ k = 13 → ¬ k = 14 → F' k = F k := by
  unfold fX12_roomFor fX12_roomFor_b10
  by_cases c : nb = 6
  · obtain ⟨F1, a1, a2, a3⟩ := m_fail (B := B) hK ht h hk (n := 2) (by decide) (by decide)
    have a1' : fX12_fail 0 2 (mkM F A B) = some ((), mkM F1 A B) := a1
    have e6 : nI nb = (6 : Int32) := by rw [c]; rfl
    have f13 : ¬ F1 13 = 0 := by rw [a2.1]; exact nI_ne0 (by decide) (by decide)
    refine ⟨F1, ?_, by rw [if_pos c, if_pos c]; exact a2, fun k _ q2 q3 => a3 k q2 q3⟩
    simp -implicitDefEqProofs (disch := first | assumption | omega | decide | exact And.intro (by omega) (by omega)) only [mck, mg_0, mp_0, mr_1, mg_2, mp_2, mr_3, mg_4, mp_4, mr_5, mr_6, mr_7, mr_8, mr_9, mg_10, mp_10, mg_11, mp_11, mg_12, mp_12, mg_13, mp_13, mg_14, mp_14, mg_15, mp_15, mg_16, mp_16, mg_17, mp_17, mg_18, mp_18, mg_19, mp_19, mg_20, mp_20, mr_21, mr_22, mr_23, mr_24, mr_25, mr_26, mr_27, mr_28, mr_29, mr_30, mr_31, mr_32, mg_33, mp_33, mr_34, mr_35, mr_36, mr_37, mr_38, mg_39, mp_39, mr_40, mr_41, mr_42, mg_43, mp_43, mr_44, mr_45, mg_46, mp_46, mr_47, mr_48, mg_49, mp_49, mg_50, mp_50, mg_51, mp_51, mr_52, mr_53, mr_54, mg_55, mp_55, mr_56, mr_57, mg_58, mp_58, mg_59, mp_59, mg_60, mp_60, mr_61, mg_62, mp_62, mr_63, mr_64, mr_65, mr_66, mr_67, mr_68, ma_1, ms_1, ma_2, ms_2, ma_3, ms_3, ma_4, ms_4, ma_5, ms_5, ma_6, ms_6, ma_7, ms_7, ma_8, ms_8, ma_9, ms_9, ma_10, ms_10, ma_11, ms_11, ma_12, ms_12, ma_13, ms_13, ma_14, ms_14, ma_15, ms_15, ma_16, ms_16, ma_17, ms_17, ma_18, ms_18, ma_19, ms_19, ma_20, ms_20, ma_21, ms_21, ma_22, ms_22, ma_23, ms_23, ma_24, ms_24, ma_25, ms_25, ma_26, ms_26, ma_27, ms_27, ma_28, ms_28, ma_29, ms_29, ma_30, ms_30, ma_31, ms_31, ma_32, ms_32, ma_33, ms_33, ma_34, ms_34, ma_35, ms_35, ma_36, ms_36, ma_37, ms_37, ma_38, ms_38, ma_39, ms_39, ma_40, ms_40, ma_41, ms_41, ma_42, ms_42, ma_43, ms_43, if_true, if_false, Option.bind_some, cb_e, lt_e, nI_1, hs_nar2, nh4, upd_at, vau_at, ma_30_18, ms_30_18, ma_31_18, ms_31_18, ma_28_0, ms_28_0, ma_28_1, ms_28_1, ma_28_2, ms_28_2, ma_28_3, ms_28_3, ma_28_4, ms_28_4, ma_42_0, ms_42_0, ma_42_1, ms_42_1, ma_42_2, ms_42_2, ma_36_0, ms_36_0, if_pos e6, a1', if_neg f13]
  · obtain ⟨F1, a1, a2, a3⟩ := m_go (B := B) hK ht h hk e hk18
    have e6 : ¬ nI nb = (6 : Int32) := fun q => by
      have := (nI_eq (b := 6) (by omega) (by decide)).1 q
      omega
    have f13 : F 13 = 0 := h.1
    refine ⟨F1, ?_, by rw [if_neg c, if_neg c]; exact a2, a3⟩
    simp -implicitDefEqProofs (disch := first | assumption | omega | decide | exact And.intro (by omega) (by omega)) only [mck, mg_0, mp_0, mr_1, mg_2, mp_2, mr_3, mg_4, mp_4, mr_5, mr_6, mr_7, mr_8, mr_9, mg_10, mp_10, mg_11, mp_11, mg_12, mp_12, mg_13, mp_13, mg_14, mp_14, mg_15, mp_15, mg_16, mp_16, mg_17, mp_17, mg_18, mp_18, mg_19, mp_19, mg_20, mp_20, mr_21, mr_22, mr_23, mr_24, mr_25, mr_26, mr_27, mr_28, mr_29, mr_30, mr_31, mr_32, mg_33, mp_33, mr_34, mr_35, mr_36, mr_37, mr_38, mg_39, mp_39, mr_40, mr_41, mr_42, mg_43, mp_43, mr_44, mr_45, mg_46, mp_46, mr_47, mr_48, mg_49, mp_49, mg_50, mp_50, mg_51, mp_51, mr_52, mr_53, mr_54, mg_55, mp_55, mr_56, mr_57, mg_58, mp_58, mg_59, mp_59, mg_60, mp_60, mr_61, mg_62, mp_62, mr_63, mr_64, mr_65, mr_66, mr_67, mr_68, ma_1, ms_1, ma_2, ms_2, ma_3, ms_3, ma_4, ms_4, ma_5, ms_5, ma_6, ms_6, ma_7, ms_7, ma_8, ms_8, ma_9, ms_9, ma_10, ms_10, ma_11, ms_11, ma_12, ms_12, ma_13, ms_13, ma_14, ms_14, ma_15, ms_15, ma_16, ms_16, ma_17, ms_17, ma_18, ms_18, ma_19, ms_19, ma_20, ms_20, ma_21, ms_21, ma_22, ms_22, ma_23, ms_23, ma_24, ms_24, ma_25, ms_25, ma_26, ms_26, ma_27, ms_27, ma_28, ms_28, ma_29, ms_29, ma_30, ms_30, ma_31, ms_31, ma_32, ms_32, ma_33, ms_33, ma_34, ms_34, ma_35, ms_35, ma_36, ms_36, ma_37, ms_37, ma_38, ms_38, ma_39, ms_39, ma_40, ms_40, ma_41, ms_41, ma_42, ms_42, ma_43, ms_43, if_true, if_false, Option.bind_some, cb_e, lt_e, nI_1, hs_nar2, nh4, upd_at, vau_at, ma_30_18, ms_30_18, ma_31_18, ms_31_18, ma_28_0, ms_28_0, ma_28_1, ms_28_1, ma_28_2, ms_28_2, ma_28_3, ms_28_3, ma_28_4, ms_28_4, ma_42_0, ms_42_0, ma_42_1, ms_42_1, ma_42_2, ms_42_2, ma_36_0, ms_36_0, if_neg e6, f13, a1]
theorem t_book (hd : d = 7 ∨ d = 22) (hr : r 2 = d) (h : Rd d sd M K V NM PL Fc Ac Bc F A B t) (e : K t = 0) : Tells d sd M K V NM PL r (fX3_tellBook 37) (fX12_tell 0) Fc Ac Bc F A B t := by
  obtain ⟨⟨ht, tk, hcp, hmp⟩, sl, sp, nb, nf, nc, cc, cm, br, g, hP, hT⟩ := h
  have hK := tk.tk
  obtain ⟨ck, mk⟩ := tk.cm
  have hM := hK.1
  obtain ⟨⟨p12, p19, psd⟩, ⟨s5, csl, msl, spl, sp0⟩, ⟨p5, p6, p7, p8, p9⟩, ⟨q1, q2, q3⟩, ⟨q4, q5, q6⟩, ⟨q7, q8⟩, ⟨u1, u2, u3⟩, ⟨u4, u5, u6⟩, ⟨v1, v2, v3⟩, v4, v5, v6⟩ := id hP
  obtain ⟨y, y1, y2, y3⟩ := hmp.2.1
  rw [y3 rfl] at y2
  have ht403 : t < 403 := by omega
  have k3 : A 3 t = (20 : Int32) := by rw [(mk t ht).1, e]; rfl
  have sd2 : sd < 2 := by omega
  obtain ⟨G1, g1, g2, g3⟩ := m_room (B := B) (nb := nb) hK ht hmp mk e (by decide) p5
  have head : fX12_tell 0 (mkM F A B) = (if G1 13 = 0 then (cb (fX12_tellBook 0 (mkM G1 A B)) fun _ s => some ((), s)) else some ((), mkM G1 A B)) := by
    unfold fX12_tell
    rw [mck, mr_5, Option.bind_some, mg_11, Option.bind_some, y2, ma_3 _ _ _ ht403, Option.bind_some, k3, if_pos rfl]
    simp -implicitDefEqProofs (disch := first | assumption | omega | decide | exact And.intro (by omega) (by omega)) only [mck, mg_0, mp_0, mr_1, mg_2, mp_2, mr_3, mg_4, mp_4, mr_5, mr_6, mr_7, mr_8, mr_9, mg_10, mp_10, mg_11, mp_11, mg_12, mp_12, mg_13, mp_13, mg_14, mp_14, mg_15, mp_15, mg_16, mp_16, mg_17, mp_17, mg_18, mp_18, mg_19, mp_19, mg_20, mp_20, mr_21, mr_22, mr_23, mr_24, mr_25, mr_26, mr_27, mr_28, mr_29, mr_30, mr_31, mr_32, mg_33, mp_33, mr_34, mr_35, mr_36, mr_37, mr_38, mg_39, mp_39, mr_40, mr_41, mr_42, mg_43, mp_43, mr_44, mr_45, mg_46, mp_46, mr_47, mr_48, mg_49, mp_49, mg_50, mp_50, mg_51, mp_51, mr_52, mr_53, mr_54, mg_55, mp_55, mr_56, mr_57, mg_58, mp_58, mg_59, mp_59, mg_60, mp_60, mr_61, mg_62, mp_62, mr_63, mr_64, mr_65, mr_66, mr_67, mr_68, ma_1, ms_1, ma_2, ms_2, ma_3, ms_3, ma_4, ms_4, ma_5, ms_5, ma_6, ms_6, ma_7, ms_7, ma_8, ms_8, ma_9, ms_9, ma_10, ms_10, ma_11, ms_11, ma_12, ms_12, ma_13, ms_13, ma_14, ms_14, ma_15, ms_15, ma_16, ms_16, ma_17, ms_17, ma_18, ms_18, ma_19, ms_19, ma_20, ms_20, ma_21, ms_21, ma_22, ms_22, ma_23, ms_23, ma_24, ms_24, ma_25, ms_25, ma_26, ms_26, ma_27, ms_27, ma_28, ms_28, ma_29, ms_29, ma_30, ms_30, ma_31, ms_31, ma_32, ms_32, ma_33, ms_33, ma_34, ms_34, ma_35, ms_35, ma_36, ms_36, ma_37, ms_37, ma_38, ms_38, ma_39, ms_39, ma_40, ms_40, ma_41, ms_41, ma_42, ms_42, ma_43, ms_43, if_true, if_false, Option.bind_some, cb_e, lt_e, nI_1, hs_nar2, nh4, upd_at, vau_at, ma_30_18, ms_30_18, ma_31_18, ms_31_18, ma_28_0, ms_28_0, ma_28_1, ms_28_1, ma_28_2, ms_28_2, ma_28_3, ms_28_3, ma_28_4, ms_28_4, ma_42_0, ms_42_0, ma_42_1, ms_42_1, ma_42_2, ms_42_2, ma_36_0, ms_36_0, p19, p7, g1]
  by_cases c6 : nb = 6
  · rw [if_pos c6, if_pos c6] at g2
    have f13 : ¬ G1 13 = 0 := by rw [g2.1]; exact nI_ne0 (by decide) (by decide)
    obtain ⟨F1, a1, a2, a3, a4⟩ := c_fail (B := Bc) (r := r) hK ht hcp ck (n := 2) (by decide) (by decide)
    have a1' : fX3_fail 37 2 (mkC Fc Ac Bc r) = some ((), mkC F1 Ac Bc r) := a1
    rw [c6] at p6
    have p6' : Fc 37 7 = (6 : Int32) := p6
    refine ⟨F1, Ac, Bc, G1, A, B, 2, t, ?_, by rw [head, if_neg f13], ⟨fun c q1 _ _ => a3 c q1, fun _ _ => rfl, fun _ _ => rfl⟩, ⟨fun k q1 _ _ _ _ => g3 k (by omega) (by omega) (by omega), fun _ _ _ => rfl, fun _ _ => rfl⟩, fun q => absurd q (by decide), fun _ => ⟨a2, g2⟩⟩
    unfold fX3_tellBook
    simp -implicitDefEqProofs (disch := first | assumption | omega | decide | exact And.intro (by omega) (by omega)) only [cck_0, cr0_0, cr0_1, cr0_2, cr0_3, cg0_4, cp0_4, cg0_5, cp0_5, cck_1, cg1_0, cp1_0, cr1_1, cr1_2, cr1_3, cg1_4, cp1_4, cg1_5, cp1_5, cr1_6, cr1_7, cck_2, cr2_0, cr2_1, cr2_2, cck_3, cr3_0, cr3_1, cg3_2, cp3_2, cg3_3, cp3_3, cg3_4, cp3_4, cg3_5, cp3_5, cg3_6, cp3_6, cg3_7, cp3_7, cg3_8, cp3_8, cck_4, cg4_0, cp4_0, cg4_1, cp4_1, cr4_2, cr4_3, cr4_4, cr4_5, cck_5, cg5_0, cp5_0, cr5_1, cr5_2, cr5_3, cck_6, cg6_0, cp6_0, cg6_1, cp6_1, cck_7, cg7_0, cp7_0, cg7_1, cp7_1, cr7_2, cr7_3, cr7_4, cr7_5, cr7_6, cr7_7, cr7_8, cck_8, cr8_0, cr8_1, cck_9, cr9_0, cr9_1, cr9_2, cr9_3, cg9_4, cp9_4, cck_10, cg10_0, cp10_0, cr10_1, cr10_2, cr10_3, cr10_4, cg10_5, cp10_5, cr10_6, cr10_7, cr10_8, cg10_9, cp10_9, cg10_10, cp10_10, cr10_11, cr10_12, cr10_13, cr10_14, cck_11, cr11_0, cg11_1, cp11_1, cr11_2, cr11_3, cr11_4, cr11_5, cr11_6, cr11_7, cr11_8, cr11_9, cr11_10, cr11_11, cr11_12, cr11_13, cr11_14, ca_30, cs_30, ca_31, cs_31, ca_32, cs_32, ca_33, cs_33, ca_34, cs_34, ca_35, cs_35, ca_36, cs_36, ca_37, cs_37, ca_38, cs_38, ca_39, cs_39, ca_40, cs_40, ca_41, cs_41, ca_42, cs_42, car_20, car_21, car_22, cq11_3, cq11_4, cq3_1, cq0_0, cq0_1, if_true, if_false, Option.bind_some, cb_e, lt_e, nI_1, hs_nar2, nh4, upd_at, vau_at, ca_42_0, cs_42_0, p6', a1']
  · rw [if_neg c6, if_neg c6] at g2
    have hpl : ∀ a, a ≤ M → PL a ≤ 2000 := fun a ha => (tk.2.1 a ha).2.2.2.1
    obtain ⟨F6, x1, x2, ⟨x3, x3'⟩, x4, x5⟩ := c_book (NM := NM) (w := (sl, sp)) (g := g) hd hr hK ht hcp ck (fun j hj q => ⟨((tk.2.1 j hj).2.2.2.2.2 q).1, ((tk.2.1 j hj).2.2.2.2.2 q).2.2⟩) ⟨s5, csl, fun q => (spl q).1, sp0⟩ p6 (by omega) q5 (by omega) (fun i hi => ⟨q6 i hi, (p9 i (by omega)).2⟩)
    obtain ⟨⟨l1, l2, l3⟩, l4⟩ := stp_ok hK (k := 0) (s := (0, t)) (by decide) ht (Nat.zero_le _)
    by_cases cz1 : (stp K 0 (0, t)).1 = 0
    · obtain ⟨_, ez, _, t4⟩ := l4 cz1
      have es : stp K 0 (0, t) = (0, t + 1) := Prod.ext cz1 ez
      rw [es] at x1 x4 x5 g2 l2
      have l2' : t + 1 ≤ M := l2
      have f13 : G1 13 = 0 := g2.1
      obtain ⟨G2, h1, h2, h3, h4, h5⟩ := m_book_s (NM := NM) (B := B) (w := (sl, sp)) (sd := sd) (nb := nb) (g := g) hK psd l2' g2 mk (fun j hj q => ⟨((tk.2.1 j hj).2.2.2.2.2 q).2.1, ((tk.2.1 j hj).2.2.2.2.2 q).2.2⟩) (SlM.eq (F := F) ⟨s5, msl, fun q => (spl q).2.1⟩ g3) (fun q => Nat.lt_of_lt_of_le (spl q).2.2 (tk.le (by omega) l2')) hpl (by rw [g3 19 (by decide) (by decide) (by decide)]; exact p19) (by rw [g3 20 (by decide) (by decide) (by decide)]; exact p8) p7 (by omega) p9
      obtain ⟨⟨i1, i2, i3⟩, i4⟩ := stp_ok hK (k := 16) (s := (0, t + 1)) (by decide) l2' (Nat.zero_le _)
      generalize hdup : decide (¬ fndN g (NM (t + 1)) nb 0 = none) = dup at *
      have edup : slp (sl, sp) (decide (¬ fndN g (NM (t + 1)) nc 0 = none)) 3 (PL (t + 1)) = slp (sl, sp) dup 3 (PL (t + 1)) := by
        by_cases c0 : sl = 0
        · obtain ⟨T, lw, P, ⟨t1, _⟩, _⟩ := hT c0
          rw [t1, hdup]
        · rw [slp_n0 (w := (sl, sp)) c0, slp_n0 (w := (sl, sp)) c0]
      rw [edup] at x5
      have w0lt : ∀ q, t + 1 < q → q ≤ M → ¬ (slp (sl, sp) dup 3 (PL (t + 1))).1 = 0 → (slp (sl, sp) dup 3 (PL (t + 1))).2 < PL q := fun q hq hqm => slp_lt (p0 := PL t) (fun z => (spl z).2.2) (tk.le (by omega) hqm) (tk.lt _ _ hq hqm)
      generalize hw0 : slp (sl, sp) dup 3 (PL (t + 1)) = w0 at *
      obtain ⟨G3, A3, B3, x, y, j1, j2, j3, j4, j5, ⟨j6, j6'⟩, j7, j8⟩ := m_book73 (B := B) (w := w0) (j := t + 1) (nb := nb) hK psd i2 i3 h1 mk (fun q => ⟨h4 q, w0lt _ (by have := (i4 q).2.1; omega) i2⟩) (fun a b hab hb => tk.lt b a hab hb) hpl (by rw [h2 19 (by decide), g3 19 (by decide) (by decide) (by decide)]; exact p19) (by rw [h2 20 (by decide), g3 20 (by decide) (by decide) (by decide)]; exact p8) p7 (by omega) (by omega)
      have mrun : fX12_tell 0 (mkM F A B) = some ((), mkM G3 A3 B3) := by
        rw [head, if_pos f13, h5, j1]
        rfl
      have eA9 : ∀ j, ¬ j = sd → A3 9 j = A 9 j := fun j hj => by
        by_cases cz : (stp K 59 (stp K 17 (stp K 17 (stp K 16 (0, t + 1))))).1 = 0
        · rw [(j8 cz).2.1, upd_ne hj]
        · rw [(j7 cz).1]
      have mfm : MFm sd F G3 A A3 B B3 := by
        refine ⟨fun k q1 q2 q3 q4 q5 => by rw [j3 k q1 q2, h2 k q1, g3 k (by omega) (by omega) (by omega)], fun a j q => ?_, fun a ha => ?_⟩
        · by_cases a9 : a = 9
          · subst a9
            exact eA9 j (fun ej => q (Or.inl ⟨Or.inl rfl, ej⟩))
          · by_cases a10 : a = 10
            · subst a10
              rw [j6, upd_ne (fun ej => q (by unfold SReg; omega))]
            · by_cases a11 : a = 11
              · subst a11
                rw [j6', upd_ne (fun ej => q (by unfold SReg; omega))]
              · rw [j5 a a9 a10 a11]
        · by_cases cz : (stp K 59 (stp K 17 (stp K 17 (stp K 16 (0, t + 1))))).1 = 0
          · rw [(j8 cz).2.2.1, vau_ne ha]
          · rw [(j7 cz).2]
      by_cases cz : (stp K 59 (stp K 17 (stp K 17 (stp K 16 (0, t + 1))))).1 = 0
      · obtain ⟨m1, m2⟩ := x5 cz
        obtain ⟨⟨ex, ey⟩, n1, n2, n3, n4⟩ := j8 cz
        obtain ⟨⟨i5, i6, i7⟩, i8⟩ := stp_ok hK (k := 17) (s := stp K 16 (0, t + 1)) (by decide) i2 i3
        obtain ⟨⟨i9, i10, i11⟩, i12⟩ := stp_ok hK (k := 17) (s := stp K 17 (stp K 16 (0, t + 1))) (by decide) i6 i7
        obtain ⟨⟨i13, i14, i15⟩, i16⟩ := stp_ok hK (k := 59) (s := stp K 17 (stp K 17 (stp K 16 (0, t + 1)))) (by decide) i10 i11
        obtain ⟨z1, z2, z3, z4⟩ := i16 cz
        obtain ⟨z5, z6, z7, z8⟩ := i12 z1
        obtain ⟨z9, z10, z11, z12⟩ := i8 z5
        obtain ⟨z13, z14, z15, z16⟩ := i4 z9
        have e2 : (stp K 16 (0, t + 1)).2 = t + 2 := z14
        have e3 : (stp K 17 (stp K 16 (0, t + 1))).2 = t + 3 := by rw [z10, e2]
        have e4 : (stp K 17 (stp K 17 (stp K 16 (0, t + 1)))).2 = t + 4 := by rw [z6, e3]
        have e5 : (stp K 59 (stp K 17 (stp K 17 (stp K 16 (0, t + 1))))).2 = t + 5 := by rw [z2, e4]
        rw [e2] at ex ey n4 z11
        rw [e3] at z7
        rw [cz, e5] at x1 j2
        have lM : t + 5 ≤ M := by rw [← e5]; exact i14
        have c2 := ck (t + 2) (by omega)
        have c3 := ck (t + 3) (by omega)
        have b2 := (hK.2.1 (t + 2) (by omega)).2 z11
        have b3 := (hK.2.1 (t + 3) (by omega)).2 z7
        obtain ⟨F7, A7, B7, o1, o2, o3, o4, o5, o6, o7⟩ := c_book93 (A := Ac) (B := Bc) (V := V) (PL := PL) (j := t + 1) (nc := nc) hd hr m1 (by omega) c2.2.1 c3.2.1 (c2.2.2 z11) (c3.2.2 z7) b2 b3 (by rw [x2 d (by omega)]; exact q5) (by omega)
        generalize hw3 : slp (slp w0 (decide (V (t + 1 + 1) < 1 ∨ 99 < V (t + 1 + 1))) 5 (PL (t + 1 + 1))) (decide (V (t + 1 + 2) < 1 ∨ 20 < V (t + 1 + 2))) 5 (PL (t + 1 + 2)) = w3 at *
        have n4' : SlM G3 w3 := n4
        have w3lt : ¬ w3.1 = 0 → w3.2 < PL (t + 5) := by
          rw [← hw3]
          exact slp_lt (p0 := PL (t + 5)) (slp_lt (p0 := PL (t + 2)) (w0lt (t + 2) (by omega) (by omega)) (tk.le (by omega) lM) (tk.lt _ _ (by omega) lM)) (Nat.le_refl _) (tk.lt _ _ (by omega) lM)
        have d37 : ¬ d = 37 := by omega
        have crun : fX3_tellBook 37 (mkC Fc Ac Bc r) = some ((), mkC F7 A7 B7 r) := by rw [m2]; exact o1
        have cf : CFm d Fc F7 Ac A7 Bc B7 := by
          by_cases c3 : w3.1 = 0
          · obtain ⟨_, ob, ⟨oa⟩, oe⟩ := o7 c3
            exact ⟨fun c k1 k2 _ => by rw [o4 c k1 k2, x2 c k1], fun c hc => oe c (by omega) (by omega) (by omega) (by omega) (by omega), fun c hc => by rw [ob, vau_ne hc]⟩
          · obtain ⟨oa, ob, oe⟩ := o6 c3
            exact ⟨fun c k1 k2 _ => by rw [o4 c k1 k2, x2 c k1], fun c hc => by rw [ob], fun c hc => by rw [oe]⟩
        have k37 : ∀ k, ¬ k = 5 → ¬ k = 6 → F7 37 k = F6 37 k := o3
        have a3eq : ∀ a, ¬ a = 9 → ¬ a = 10 → ¬ a = 11 → A3 a = A a := j5
        have gg : ∀ i, i < nb → (fun i => if i = nb then NM (t + 1) else g i) i = g i := fun i hi => if_neg (by omega)
        have gn : (fun i => if i = nb then NM (t + 1) else g i) nb = NM (t + 1) := if_pos rfl
        have nm := (tk.2.1 (t + 1) l2').2.2.2.2.2 z15
        have B8 : ∀ i, i < nb + 1 → B3 8 i = jN (cN 27 ((fun i => if i = nb then NM (t + 1) else g i) i)) ∧ Nam ((fun i => if i = nb then NM (t + 1) else g i) i) := fun i hi => by
          by_cases ei : i = nb
          · rw [ei, gn, n2, vau_at, updL_at]
            exact ⟨nm.2.1, nm.2.2⟩
          · rw [gg i (by omega), n2, vau_at, updL_ne ei]
            exact p9 i (by omega)
        have fd0 : ∀ x, ¬ x = 0 → F7 d x = Fc d x := fun x hx => by rw [o5 x hx, x2 d d37]
        have q7' : F7 d 5 = nI cc := by rw [fd0 5 (by decide)]; exact q7
        have v3' : F7 d 10 = nI v1 := by rw [fd0 10 (by decide)]; exact v3
        have v6' : F7 (d + 11) 0 = nI v4 := by rw [o4 (d + 11) (by omega) (by omega), x2 (d + 11) (by omega)]; exact v6
        have c8 : F7 37 8 = nI nf := by rw [o3 8 (by decide) (by decide), x3']; exact q2
        have F3o : ∀ k, ¬ (11 ≤ k ∧ k ≤ 16) → ¬ k = 20 → G3 k = F k := fun k q1 q2 => by rw [j3 k q1 q2, h2 k q1, g3 k (by omega) (by omega) (by omega)]
        have f12 : G3 12 = 0 := by rw [j4, h3, g3 12 (by decide) (by decide) (by decide)]; exact p12
        refine ⟨F7, A7, B7, G3, A3, B3, 0, t + 5, crun, mrun, cf, mfm, fun _ => ⟨by omega, ⟨lM, tk.fm hd cf mfm, ?_, j2⟩, w3.1, w3.2, nb + 1, nf, if w3.1 = 0 then nc + 1 else nc, cc, cm, br, (fun i => if i = nb then NM (t + 1) else g i), ?_, ?_⟩, fun q => absurd rfl q⟩
        · unfold CPo at x1 ⊢
          rw [k37 2 (by decide) (by decide), k37 3 (by decide) (by decide), k37 4 (by decide) (by decide)]
          exact x1
        · refine ⟨⟨f12, by rw [F3o 19 (by decide) (by decide)]; exact p19, psd⟩, ⟨o2.1, o2.2.1, n4'.2.1, fun q => ⟨o2.2.2.1 q, n4'.2.2 q, w3lt q⟩, o2.2.2.2⟩, ⟨by omega, by rw [k37 7 (by decide) (by decide)]; exact x3, by rw [n1, upd_at], n3, B8⟩, ⟨q1, c8, by rw [a3eq 13 (by decide) (by decide) (by decide)]; exact q3⟩, ?_, ⟨q7', by omega⟩, ⟨by rw [F3o 39 (by decide) (by decide)]; exact u1, u2, by omega⟩, ⟨by rw [F3o 33 (by decide) (by decide)]; exact u4, u5, by omega⟩, ⟨v1, v2, v3'⟩, v4, v5, v6'⟩
          by_cases c3 : w3.1 = 0
          · rw [if_pos c3]
            obtain ⟨oz, ob, _, _⟩ := o7 c3
            have w2 := slp_0 (by decide) (show (slp _ _ 5 _).1 = 0 by rw [hw3]; exact c3)
            have w1 := slp_0 (by decide) w2.1
            have sl0 : sl = 0 := (slp_0 (w := (sl, sp)) (k := 3) (by decide) (by rw [hw0]; exact w1.1)).1
            obtain ⟨T, lw, P, ⟨t1, _⟩, _⟩ := hT sl0
            refine ⟨by omega, oz, fun i hi => ?_⟩
            rw [ob, vau_at]
            by_cases ei : i = nb
            · rw [ei, gn, ← t1, updL_at]
              exact nm.1
            · rw [gg i (by omega), updL_ne (by omega)]
              exact q6 i (by omega)
          · rw [if_neg c3]
            obtain ⟨oa, _, ob⟩ := o6 c3
            exact ⟨by omega, by rw [oa, x2 d d37]; exact q5, fun i hi => by rw [ob, gg i (by omega)]; exact q6 i hi⟩
        · intro c3
          obtain ⟨oz, ob, ⟨oa1, oa2, oa3, oa4, oa5⟩, oe⟩ := o7 c3
          have w2 := slp_0 (by decide) (show (slp _ _ 5 _).1 = 0 by rw [hw3]; exact c3)
          have w1 := slp_0 (by decide) w2.1
          have sl0 : sl = 0 := (slp_0 (w := (sl, sp)) (k := 3) (by decide) (by rw [hw0]; exact w1.1)).1
          have in1 := of_decide_eq_false w1.2
          have in2 := of_decide_eq_false w2.2
          have in1' : ¬ (V (t + 2) < 1 ∨ 99 < V (t + 2)) := in1
          have in2' : ¬ (V (t + 3) < 1 ∨ 20 < V (t + 3)) := in2
          obtain ⟨T, lw, P, ⟨t1, t2, t3, t4, t5⟩, t6, t7, ⟨t8, t9, t10⟩, ⟨t11, t12, t13⟩, t14, t15⟩ := hT sl0
          rw [if_pos c3]
          subst t1
          have hfb : ∀ f, f < nf → tFb T f < nc := fun f hf => by
            have := (t4.2.2.2.2 f (by rw [t3]; exact hf)).1
            rw [t2] at this
            exact this
          generalize hT' : ((nc + 1, (fun b => if b = nc then (V (t + 2) : Int) else tLg T b), (fun b => if b = nc then (V (t + 3) : Int) else tWt T b), tTb T, tNf T, tFb T, tFw T, tFa T, (fun b => if b = nc then none else tLw T b)) : TD) = T'
          have T1 : tNb T' = nc + 1 := by rw [← hT']
          have T2 : tLg T' = fun b => if b = nc then (V (t + 2) : Int) else tLg T b := by rw [← hT']
          have T3 : tWt T' = fun b => if b = nc then (V (t + 3) : Int) else tWt T b := by rw [← hT']
          have T4 : tTb T' = tTb T := by rw [← hT']
          have T5 : tNf T' = tNf T := by rw [← hT']
          have T6 : tFb T' = tFb T := by rw [← hT']
          have T7 : tFw T' = tFw T := by rw [← hT']
          have T8 : tFa T' = tFa T := by rw [← hT']
          have T9 : tLw T' = fun b => if b = nc then none else tLw T b := by rw [← hT']
          refine ⟨T', fun b => if b = nc then none else lw b, P, ⟨rfl, T1, by rw [T5]; exact t3, ?_, ?_⟩, ?_, ⟨?_, ?_⟩, ⟨?_, ?_, ?_⟩, ⟨t11.eq (by rw [o4 (d + 11) (by omega) (by omega), x2 (d + 11) (by omega)]) (oe _ (by omega) (by omega) (by omega) (by omega) (by omega)) (oe _ (by omega) (by omega) (by omega) (by omega) (by omega)) (oe _ (by omega) (by omega) (by omega) (by omega) (by omega)), ?_, ?_⟩, ?_, ?_⟩
          · unfold GoodT
            rw [T1, T2, T3, T4, T5, T6, T7, T8]
            refine ⟨by omega, fun b hb => ?_, t4.2.2.1, t4.2.2.2.1, fun f hf => ?_⟩
            · by_cases eb : b = nc
              · simp only [if_pos eb]
                omega
              · simp only [if_neg eb]
                exact t4.2.1 b (by rw [t2]; omega)
            · have := t4.2.2.2.2 f hf
              rw [t2] at this
              omega
          · intro b
            rw [T9]
            by_cases eb : b = nc
            · simp only [if_pos eb]
              rfl
            · simp only [if_neg eb]
              exact t5 b
          · intro b hb
            rw [T2, T3, oa1, oa2, j6, j6', ex, ey]
            by_cases eb : b = nc
            · simp only [if_pos eb]
              rw [eb, upd_at, upd_at, upd_at, upd_at]
              exact ⟨⟨rfl, rfl⟩, rfl, rfl⟩
            · simp only [if_neg eb]
              rw [upd_ne eb, upd_ne eb, upd_ne (by omega), upd_ne (by omega)]
              exact t6 b (by omega)
          · rw [T4, fd0 9 (by decide)]
            exact t7.1
          · rw [T4, a3eq 12 (by decide) (by decide) (by decide)]
            exact t7.2
          · rw [fd0 10 (by decide)]
            exact t8
          · rw [T6, T7, T8, oe (d + 8) (by omega) (by omega) (by omega) (by omega) (by omega), a3eq 14 (by decide) (by decide) (by decide), a3eq 15 (by decide) (by decide) (by decide), a3eq 16 (by decide) (by decide) (by decide)]
            exact t9
          · intro b hb
            rw [flyL_eq (T := T) (T' := T') (fun _ => by rw [T6]) (fun _ => by rw [T7]), flyT_eq (T := T) (T' := T') (fun _ => by rw [T6]) (fun _ => by rw [T7]) (fun _ => by rw [T8]), oa4, oa5]
            by_cases eb : b = nc
            · have z := flyL_0 (T := T) (b := nc) nf (fun f hf => by have := hfb f hf; omega)
              rw [eb, upd_at, upd_at, z.1, z.2]
              exact ⟨rfl, rfl⟩
            · rw [upd_ne eb, upd_ne eb]
              exact t10 b (by omega)
          · unfold MPile
            rw [a3eq 17 (by decide) (by decide) (by decide)]
            exact t12
          · exact ⟨t13.1, fun i hi => by have := t13.2.1 i hi; omega, t13.2.2⟩
          · rw [a3eq 18 (by decide) (by decide) (by decide), a3eq 19 (by decide) (by decide) (by decide)]
            exact fun b hb hb2 => t14 b hb (by omega)
          · intro b hb
            rw [a3eq 18 (by decide) (by decide) (by decide), a3eq 19 (by decide) (by decide) (by decide), oa3]
            by_cases eb : b = nc
            · simp only [if_pos eb]
              rw [eb, upd_at]
              exact ⟨rfl, t14 nc (by omega) (Nat.le_refl _)⟩
            · simp only [if_neg eb]
              rw [upd_ne eb]
              have := t15 b (by omega)
              cases hq : lw b with
              | none => rw [hq] at this; exact this
              | some y =>
                rw [hq] at this
                obtain ⟨k1, ⟨st, k2, k3, k4⟩, b0, c0, k5, k6⟩ := this
                exact ⟨k1, ⟨st, k2, k3.eq (fun j _ _ => ⟨by rw [oe (d + 5) (by omega) (by omega) (by omega) (by omega) (by omega)], by rw [oe (d + 6) (by omega) (by omega) (by omega) (by omega) (by omega)]⟩), k4⟩, b0, c0, k5.eq (fun j _ _ => ⟨by rw [a3eq 20 (by decide) (by decide) (by decide)], by rw [a3eq 21 (by decide) (by decide) (by decide)], by rw [a3eq 22 (by decide) (by decide) (by decide)], by rw [a3eq 23 (by decide) (by decide) (by decide)], by rw [a3eq 24 (by decide) (by decide) (by decide)]⟩) (fun j _ _ => ⟨by rw [a3eq 25 (by decide) (by decide) (by decide)], by rw [a3eq 26 (by decide) (by decide) (by decide)]⟩), k6⟩
      · refine ⟨F6, Ac, Bc, G3, A3, B3, _, _, x4 cz, mrun, ⟨fun c q1 _ _ => x2 c q1, fun _ _ => rfl, fun _ _ => rfl⟩, mfm, fun q => absurd q cz, fun _ => ⟨x1, j2⟩⟩
    · have f13 : ¬ G1 13 = 0 := by rw [g2.1]; exact nI_ne0 (by omega) (by omega)
      have e1 : stp K 59 (stp K 17 (stp K 17 (stp K 16 (stp K 0 (0, t))))) = stp K 0 (0, t) := by
        rw [stp_F (k := 16) cz1, stp_F (k := 17) cz1, stp_F (k := 17) cz1, stp_F (k := 59) cz1]
      rw [e1] at x1 x4
      exact ⟨F6, Ac, Bc, G1, A, B, _, _, x4 cz1, by rw [head, if_neg f13], ⟨fun c q1 _ _ => x2 c q1, fun _ _ => rfl, fun _ _ => rfl⟩, ⟨fun k q1 _ _ _ _ => g3 k (by omega) (by omega) (by omega), fun _ _ _ => rfl, fun _ _ => rfl⟩, fun q => absurd q cz1, fun _ => ⟨x1, g2⟩⟩
end B92
