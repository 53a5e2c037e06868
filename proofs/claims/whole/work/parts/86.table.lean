/-! ===== the table is told ===== -/
theorem flyL_eq {T T' : TD} (h1 : ∀ f, tFb T' f = tFb T f) (h2 : ∀ f, tFw T' f = tFw T f) (b : Nat) : ∀ m, flyL T' b m = flyL T b m
  | 0 => rfl
  | m + 1 => by rw [flyL, flyL, flyL_eq h1 h2 b m, h1, h2]
theorem flyT_eq {T T' : TD} (h1 : ∀ f, tFb T' f = tFb T f) (h2 : ∀ f, tFw T' f = tFw T f) (h3 : ∀ f, tFa T' f = tFa T f) (b : Nat) : ∀ m, flyT T' b m = flyT T b m
  | 0 => rfl
  | m + 1 => by rw [flyT, flyT, flyT_eq h1 h2 h3 b m, h1, h2, h3]
section T86
variable {d sd M : Nat} {K V : Nat → Nat} {NM : Nat → List Nat} {PL : Nat → Nat} {r : Nat → Nat} {Fc Ac : Nat → Nat → Int32} {Bc : Nat → Nat → Int64} {F : Nat → Int32} {A : Nat → Nat → Int32} {B : Nat → Nat → Int64} {t : Nat}
theorem TkR.le {Ac : Nat → Nat → Int32} {Bc : Nat → Nat → Int64} {A : Nat → Nat → Int32} {B : Nat → Nat → Int64} (h : TkR Ac Bc A B M K V NM PL) {i j : Nat} (hi : i ≤ j) (hj : j ≤ M) : PL i ≤ PL j := by
  by_cases e : i = j
  · rw [e]; exact Nat.le_refl _
  · exact Nat.le_of_lt (h.lt j i (by omega) hj)
theorem RdP.next {Fc' : Nat → Nat → Int32} {F' : Nat → Int32} {A' : Nat → Nat → Int32} {t' sl sp nb nf nc cc cm br : Nat} {g : Nat → List Nat} {w : Nat × Nat} (h : RdP d sd PL Fc Bc F A B t sl sp nb nf nc cc cm br g) (ht : t ≤ t') (hc : SlC Fc' w) (hm : SlM F' w) (hw : ¬ w.1 = 0 → w.2 < PL t') (e7 : Fc' 37 7 = Fc 37 7) (e8 : Fc' 37 8 = Fc 37 8) (ed : ∀ k, ¬ k = 9 → Fc' d k = Fc d k) (ep : Fc' (d + 11) = Fc (d + 11)) (e12 : F' 12 = 0) (eF : ∀ k, ¬ (11 ≤ k ∧ k ≤ 16) → F' k = F k) (eA : A' 9 sd = A 9 sd ∧ A' 13 sd = A 13 sd) : RdP d sd PL Fc' Bc F' A' B t' w.1 w.2 nb nf nc cc cm br g := by
  obtain ⟨⟨_, p2, p3⟩, _, ⟨p5, p6, p7, p8, p9⟩, ⟨q1, q2, q3⟩, ⟨q4, q5, q6⟩, ⟨q7, q8⟩, ⟨u1, u2, u3⟩, ⟨u4, u5, u6⟩, ⟨v1, v2, v3⟩, v4, v5, v6⟩ := h
  exact ⟨⟨e12, by rw [eF 19 (by decide)]; exact p2, p3⟩, ⟨hc.1, hc.2.1, hm.2.1, fun q => ⟨hc.2.2.1 q, hm.2.2 q, hw q⟩, hc.2.2.2⟩, ⟨p5, by rw [e7]; exact p6, by rw [eA.1]; exact p7, by rw [eF 20 (by decide)]; exact p8, p9⟩, ⟨q1, by rw [e8]; exact q2, by rw [eA.2]; exact q3⟩, ⟨q4, by rw [ed 0 (by decide)]; exact q5, q6⟩, ⟨by rw [ed 5 (by decide)]; exact q7, by omega⟩, ⟨by rw [eF 39 (by decide)]; exact u1, u2, by omega⟩, ⟨by rw [eF 33 (by decide)]; exact u4, u5, by omega⟩, ⟨v1, v2, by rw [ed 10 (by decide)]; exact v3⟩, v4, v5, by rw [ep]; exact v6⟩
theorem t_table (hd : d = 7 ∨ d = 22) (hr : r 2 = d) (h : Rd d sd M K V NM PL Fc Ac Bc F A B t) (e : K t = 2) : Tells d sd M K V NM PL r (fX3_tellTable 37) (fX12_tell 0) Fc Ac Bc F A B t := by
  obtain ⟨⟨ht, tk, hcp, hmp⟩, sl, sp, nb, nf, nc, cc, cm, br, g, hP, hT⟩ := h
  have hK := tk.tk
  obtain ⟨ck, mk⟩ := tk.cm
  have hM := hK.1
  obtain ⟨⟨p12, p19, psd⟩, ⟨s5, csl, msl, spl, sp0⟩, _⟩ := id hP
  have n18 : ∀ k : Nat, k < 100 → ¬ k = 18 → ¬ k = 18 := fun _ _ h => h
  obtain ⟨⟨l1, l2, l3⟩, l4⟩ := stp_ok hK (k := 2) (s := (0, t)) (by decide) ht (Nat.zero_le _)
  obtain ⟨⟨l5, l6, l7⟩, l8⟩ := stp_ok hK (k := 17) (s := stp K 2 (0, t)) (by decide) l2 l3
  obtain ⟨⟨l9, l10, l11⟩, l12⟩ := stp_ok hK (k := 59) (s := stp K 17 (stp K 2 (0, t))) (by decide) l6 l7
  obtain ⟨F1, x1, a1, a2, a3, a4, a5⟩ := c_stp (Bc := Bc) (r := r) hK (k := 2) (s := (0, t)) ht hcp ck (by decide) (by decide)
  obtain ⟨F2, x2, b1, b2, b3, b4, b5⟩ := c_stp (Bc := Bc) (r := r) hK (k := 17) l2 a2 ck (by decide) (by decide)
  obtain ⟨F3, x3, c1, c2, c3, c4, c5⟩ := c_stp (Bc := Bc) (r := r) hK (k := 59) l6 b2 ck (by decide) (by decide)
  obtain ⟨G1, g1, g2, g3⟩ := m_go (B := B) hK ht hmp mk e (by decide)
  have sm1 : SlM G1 (sl, sp) := SlM.eq (F := F) ⟨s5, msl, fun q => (spl q).2.1⟩ g3
  have le1 : PL t ≤ PL (stp K 2 (0, t)).2 := tk.le l1 l2
  obtain ⟨G2, x, g4, g5, g6, g7, g8⟩ := m_bnd (B := B) (w := (sl, sp)) (lo := 1) (hi := 999) hK l2 g2 mk sm1 (fun q => Nat.lt_of_lt_of_le (spl q).2.2 le1) (tk.2.1 _ l2).2.2.2.1 (by decide) (by decide)
  have mk2 : MTk (va_up A 12 (upd (A 12) sd x)) M K V PL := by
    unfold MTk at *
    rw [vau_ne (by decide), vau_ne (by decide), vau_ne (by decide)]
    exact mk
  obtain ⟨G3, g9, g10, g11⟩ := m_stp (B := B) hK (k := 59) l6 g5 mk2 rfl (by decide)
  have a1' : fX3_take 37 2 (mkC Fc Ac Bc r) = some (x1, mkC F1 Ac Bc r) := a1
  have b1' : fX3_take 37 17 (mkC F1 Ac Bc r) = some (x2, mkC F2 Ac Bc r) := b1
  have c1' : fX3_take 37 59 (mkC F2 Ac Bc r) = some (x3, mkC F3 Ac Bc r) := c1
  have g4' : fX12_bounded 0 1 999 (mkM G1 A B) = some (x, mkM G2 A B) := g4
  have g9' : fX12_must 0 4 (mkM G2 (va_up A 12 (upd (A 12) sd x)) B) = some ((), mkM G3 (va_up A 12 (upd (A 12) sd x)) B) := g9
  obtain ⟨y, y1, y2, y3⟩ := hmp.2.1
  rw [y3 rfl] at y2
  have ht403 : t < 403 := by omega
  have k3 : A 3 t = (22 : Int32) := by rw [(mk t ht).1, e]; rfl
  have m1 : ¬ (22 : Int32) = 20 := by decide
  have m2 : ¬ (22 : Int32) = 21 := by decide
  have sd2 : sd < 2 := by omega
  have q19 : G1 19 = nI sd := by rw [g3 19 (by decide) (by decide) (by decide)]; exact p19
  have mrun : fX12_tell 0 (mkM F A B) = some ((), mkM G3 (va_up A 12 (upd (A 12) sd x)) B) := by
    unfold fX12_tell
    rw [mck, mr_5, Option.bind_some, mg_11, Option.bind_some, y2, ma_3 _ _ _ ht403, Option.bind_some, k3, if_neg m1, if_neg m2, if_pos rfl]
    simp -implicitDefEqProofs (disch := first | assumption | omega | decide | exact And.intro (by omega) (by omega)) only [mck, mg_0, mp_0, mr_1, mg_2, mp_2, mr_3, mg_4, mp_4, mr_5, mr_6, mr_7, mr_8, mr_9, mg_10, mp_10, mg_11, mp_11, mg_12, mp_12, mg_13, mp_13, mg_14, mp_14, mg_15, mp_15, mg_16, mp_16, mg_17, mp_17, mg_18, mp_18, mg_19, mp_19, mg_20, mp_20, mr_21, mr_22, mr_23, mr_24, mr_25, mr_26, mr_27, mr_28, mr_29, mr_30, mr_31, mr_32, mg_33, mp_33, mr_34, mr_35, mr_36, mr_37, mr_38, mg_39, mp_39, mr_40, mr_41, mr_42, mg_43, mp_43, mr_44, mr_45, mg_46, mp_46, mr_47, mr_48, mg_49, mp_49, mg_50, mp_50, mg_51, mp_51, mr_52, mr_53, mr_54, mg_55, mp_55, mr_56, mr_57, mg_58, mp_58, mg_59, mp_59, mg_60, mp_60, mr_61, mg_62, mp_62, mr_63, mr_64, mr_65, mr_66, mr_67, mr_68, ma_1, ms_1, ma_2, ms_2, ma_3, ms_3, ma_4, ms_4, ma_5, ms_5, ma_6, ms_6, ma_7, ms_7, ma_8, ms_8, ma_9, ms_9, ma_10, ms_10, ma_11, ms_11, ma_12, ms_12, ma_13, ms_13, ma_14, ms_14, ma_15, ms_15, ma_16, ms_16, ma_17, ms_17, ma_18, ms_18, ma_19, ms_19, ma_20, ms_20, ma_21, ms_21, ma_22, ms_22, ma_23, ms_23, ma_24, ms_24, ma_25, ms_25, ma_26, ms_26, ma_27, ms_27, ma_28, ms_28, ma_29, ms_29, ma_30, ms_30, ma_31, ms_31, ma_32, ms_32, ma_33, ms_33, ma_34, ms_34, ma_35, ms_35, ma_36, ms_36, ma_37, ms_37, ma_38, ms_38, ma_39, ms_39, ma_40, ms_40, ma_41, ms_41, ma_42, ms_42, ma_43, ms_43, if_true, if_false, Option.bind_some, cb_e, lt_e, nI_1, hs_nar2, nh4, upd_at, vau_at, ma_30_18, ms_30_18, ma_31_18, ms_31_18, ma_28_0, ms_28_0, ma_28_1, ms_28_1, ma_28_2, ms_28_2, ma_28_3, ms_28_3, ma_28_4, ms_28_4, ma_42_0, ms_42_0, ma_42_1, ms_42_1, ma_42_2, ms_42_2, ma_36_0, ms_36_0, g1, q19, g4', g9']
  have mfm : MFm sd F G3 A (va_up A 12 (upd (A 12) sd x)) B B := by
    refine ⟨fun k q1 q2 q3 q4 q5 => by rw [g11 k (by omega) (by omega) (by omega), g6 k q1, g3 k (by omega) (by omega) (by omega)], fun a j q => ?_, fun _ _ => rfl⟩
    by_cases ea : a = 12
    · subst ea
      rw [vau_at, upd_ne (fun ej => q (Or.inl ⟨Or.inr (Or.inl rfl), ej⟩))]
    · rw [vau_ne ea]
  have f33 := c2.1
  by_cases cz : (stp K 59 (stp K 17 (stp K 2 (0, t)))).1 = 0
  · obtain ⟨z1, z2, z3, z4⟩ := l12 cz
    obtain ⟨z5, z6, z7, z8⟩ := l8 z1
    obtain ⟨z9, z10, z11, z12⟩ := l4 z5
    rw [cz] at f33
    have f33' : F3 37 3 = 0 := f33
    have ex2 := b5 z5
    obtain ⟨v1, v2⟩ := hK.2.1 _ l2
    have v9 := v2 z7
    have cv := ck _ l2
    have sc3 : SlC F3 (sl, sp) := SlC.eq (F := F2) (SlC.eq (F := F1) (SlC.eq (F := Fc) ⟨s5, csl, fun q => (spl q).1, sp0⟩ a4) b4) c4
    have j402 : (stp K 2 (0, t)).2 < 402 := by omega
    obtain ⟨F4, h1, h2, h3, h4⟩ := c_chk (r := r) (lo := 1) (hi := 999) sc3 j402 cv.2.1 (cv.2.2 z7) v9 (by decide) (by decide)
    have h1' : fX3_checkInt 37 (nI (stp K 2 (0, t)).2) 1 999 (mkC F3 Ac Bc r) = some ((), mkC F4 Ac Bc r) := h1
    have hi := c_intAt (F := F4) (A := Ac) (r := r) j402 (cv.2.2 z7) v9
    obtain ⟨w1, w2⟩ := g8 z1
    have hr2 : gR (mkC F4 Ac Bc r) 3 37 1 = some d := by rw [cr3_1 rfl, hr]
    have kd : c_kd d = 10 := by rcases hd with h | h <;> subst h <;> rfl
    have crun : fX3_tellTable 37 (mkC Fc Ac Bc r) = some ((), mkC (va_up F4 d (upd (F4 d) 9 (nI (V (stp K 2 (0, t)).2)))) Ac Bc r) := by
      unfold fX3_tellTable
      rw [ex2] at b1'
      simp -implicitDefEqProofs (disch := first | assumption | omega | decide | exact And.intro (by omega) (by omega)) only [cck_0, cr0_0, cr0_1, cr0_2, cr0_3, cg0_4, cp0_4, cg0_5, cp0_5, cck_1, cg1_0, cp1_0, cr1_1, cr1_2, cr1_3, cg1_4, cp1_4, cg1_5, cp1_5, cr1_6, cr1_7, cck_2, cr2_0, cr2_1, cr2_2, cck_3, cr3_0, cr3_1, cg3_2, cp3_2, cg3_3, cp3_3, cg3_4, cp3_4, cg3_5, cp3_5, cg3_6, cp3_6, cg3_7, cp3_7, cg3_8, cp3_8, cck_4, cg4_0, cp4_0, cg4_1, cp4_1, cr4_2, cr4_3, cr4_4, cr4_5, cck_5, cg5_0, cp5_0, cr5_1, cr5_2, cr5_3, cck_6, cg6_0, cp6_0, cg6_1, cp6_1, cck_7, cg7_0, cp7_0, cg7_1, cp7_1, cr7_2, cr7_3, cr7_4, cr7_5, cr7_6, cr7_7, cr7_8, cck_8, cr8_0, cr8_1, cck_9, cr9_0, cr9_1, cr9_2, cr9_3, cg9_4, cp9_4, cck_10, cg10_0, cp10_0, cr10_1, cr10_2, cr10_3, cr10_4, cg10_5, cp10_5, cr10_6, cr10_7, cr10_8, cg10_9, cp10_9, cg10_10, cp10_10, cr10_11, cr10_12, cr10_13, cr10_14, cck_11, cr11_0, cg11_1, cp11_1, cr11_2, cr11_3, cr11_4, cr11_5, cr11_6, cr11_7, cr11_8, cr11_9, cr11_10, cr11_11, cr11_12, cr11_13, cr11_14, ca_30, cs_30, ca_31, cs_31, ca_32, cs_32, ca_33, cs_33, ca_34, cs_34, ca_35, cs_35, ca_36, cs_36, ca_37, cs_37, ca_38, cs_38, ca_39, cs_39, ca_40, cs_40, ca_41, cs_41, ca_42, cs_42, car_20, car_21, car_22, cq11_3, cq11_4, cq3_1, cq0_0, cq0_1, if_true, if_false, Option.bind_some, cb_e, lt_e, nI_1, hs_nar2, nh4, upd_at, vau_at, ca_42_0, cs_42_0, a1', b1', c1', f33', h1', hr2, hi]
    have fo : ∀ c, ¬ c = 37 → F4 c = Fc c := fun c hc => by rw [h3 c hc, c3 c hc, b3 c hc, a3 c hc]
    have f37 : ∀ k, ¬ (2 ≤ k ∧ k ≤ 6) → F4 37 k = Fc 37 k := fun k hk => by rw [h4 k (by omega) (by omega), c4 k (by omega) (by omega) (by omega), b4 k (by omega) (by omega) (by omega), a4 k (by omega) (by omega) (by omega)]
    have d37 : ¬ (37 : Nat) = d := by omega
    have lt1 : PL (stp K 2 (0, t)).2 < PL (stp K 59 (stp K 17 (stp K 2 (0, t)))).2 := tk.lt _ _ (by omega) l10
    have cf : CFm d Fc (va_up F4 d (upd (F4 d) 9 (nI (V (stp K 2 (0, t)).2)))) Ac Ac Bc Bc := ⟨fun c q1 q2 q3 => by rw [vau_ne q2]; exact fo c q1, fun _ _ => rfl, fun _ _ => rfl⟩
    have h4b : ∀ k, k = 2 ∨ k = 3 ∨ k = 4 → F4 37 k = F3 37 k := fun k hk => h4 k (by omega) (by omega)
    refine ⟨_, Ac, Bc, G3, _, B, 0, (stp K 59 (stp K 17 (stp K 2 (0, t)))).2, crun, mrun, cf, mfm, fun _ => ⟨by omega, ⟨l10, tk.fm hd cf mfm, ?_, ?_⟩, (slp (sl, sp) (decide (V (stp K 2 (0, t)).2 < 1 ∨ 999 < V (stp K 2 (0, t)).2)) 5 (PL (stp K 2 (0, t)).2)).1, (slp (sl, sp) (decide (V (stp K 2 (0, t)).2 < 1 ∨ 999 < V (stp K 2 (0, t)).2)) 5 (PL (stp K 2 (0, t)).2)).2, nb, nf, nc, cc, cm, br, g, ?_, ?_⟩, fun q => absurd rfl q⟩
    · rw [cz] at c2
      unfold CPo at c2 ⊢
      rw [vau_ne d37, h4b 2 (Or.inl rfl), h4b 3 (Or.inr (Or.inl rfl)), h4b 4 (Or.inr (Or.inr rfl))]
      exact c2
    · rw [cz] at g10
      exact g10
    · refine hP.next (by omega) ⟨h2.1, by rw [vau_ne d37]; exact h2.2.1, fun q => by rw [vau_ne d37]; exact h2.2.2.1 q, fun q => by rw [vau_ne d37]; exact h2.2.2.2 q⟩ (w2.eq g11) (slp_lt (p0 := PL t) (fun q => (spl q).2.2) (tk.le (by omega) l10) lt1) (by rw [vau_ne d37]; exact f37 7 (by decide)) (by rw [vau_ne d37]; exact f37 8 (by decide)) (fun k hk => by rw [vau_at, upd_ne hk, fo d (fun q => d37 q.symm)]) (by rw [vau_ne (by omega)]; exact fo _ (by omega)) ?_ (fun k q1 => by rw [g11 k (by omega) (by omega) (by omega), g6 k q1, g3 k (by omega) (by omega) (by omega)]) ⟨by rw [vau_ne (by decide)], by rw [vau_ne (by decide)]⟩
      rw [g11 12 (by decide) (by decide) (by decide), g7, g3 12 (by decide) (by decide) (by decide)]
      exact p12
    · intro q0
      obtain ⟨sl0, nbad⟩ := slp_0 (by decide) q0
      obtain ⟨T, lw, P, ⟨t1, t2, t3, t4, t5⟩, t6, t7, ⟨t8, t9, t10⟩, ⟨t11, t12, t13⟩, t14, t15⟩ := hT sl0
      have inb := of_decide_eq_false nbad
      refine ⟨(T.1, T.2.1, T.2.2.1, (V (stp K 2 (0, t)).2 : Int), T.2.2.2.2), lw, P, ⟨t1, t2, t3, ⟨t4.1, t4.2.1, ⟨by show (1 : Int) ≤ (V (stp K 2 (0, t)).2 : Int); omega, by show (V (stp K 2 (0, t)).2 : Int) ≤ 999; omega⟩, t4.2.2.2⟩, t5⟩, ?_, ⟨by rw [vau_at, upd_at]; rfl, by rw [vau_at, upd_at, w1]; rfl⟩, ⟨by rw [vau_at, upd_ne (by decide), fo d (fun q => d37 q.symm)]; exact t8, ?_, ?_⟩, ⟨t11.eq (by rw [vau_ne (by omega)]; exact fo _ (by omega)) rfl rfl rfl, ?_, t13⟩, ?_, ?_⟩
      · rw [vau_ne (by decide), vau_ne (by decide)]
        exact t6
      · rw [vau_ne (by decide), vau_ne (by decide), vau_ne (by decide)]
        exact t9
      · intro b hb
        rw [flyL_eq (T := T) (T' := (T.1, T.2.1, T.2.2.1, (V (stp K 2 (0, t)).2 : Int), T.2.2.2.2)) (fun _ => rfl) (fun _ => rfl), flyT_eq (T := T) (T' := (T.1, T.2.1, T.2.2.1, (V (stp K 2 (0, t)).2 : Int), T.2.2.2.2)) (fun _ => rfl) (fun _ => rfl) (fun _ => rfl)]
        exact t10 b hb
      · unfold MPile
        rw [vau_ne (by decide)]
        exact t12
      · rw [vau_ne (by decide), vau_ne (by decide)]
        exact t14
      · intro b hb
        have := t15 b hb
        rw [vau_ne (by decide), vau_ne (by decide)]
        cases hq : lw b with
        | none => rw [hq] at this; exact this
        | some y =>
          rw [hq] at this
          obtain ⟨o1, o2, b0, c0, o3, o4⟩ := this
          exact ⟨o1, o2, b0, c0, o3.eq (fun j _ _ => ⟨by rw [vau_ne (by decide)], by rw [vau_ne (by decide)], by rw [vau_ne (by decide)], by rw [vau_ne (by decide)], by rw [vau_ne (by decide)]⟩) (fun j _ _ => ⟨by rw [vau_ne (by decide)], by rw [vau_ne (by decide)]⟩), o4⟩
  · have hz : ¬ nI (stp K 59 (stp K 17 (stp K 2 (0, t)))).1 = 0 := nI_ne0 (by omega) (by omega)
    have crun : fX3_tellTable 37 (mkC Fc Ac Bc r) = some ((), mkC F3 Ac Bc r) := by
      unfold fX3_tellTable
      simp -implicitDefEqProofs (disch := first | assumption | omega | decide | exact And.intro (by omega) (by omega)) only [cck_0, cr0_0, cr0_1, cr0_2, cr0_3, cg0_4, cp0_4, cg0_5, cp0_5, cck_1, cg1_0, cp1_0, cr1_1, cr1_2, cr1_3, cg1_4, cp1_4, cg1_5, cp1_5, cr1_6, cr1_7, cck_2, cr2_0, cr2_1, cr2_2, cck_3, cr3_0, cr3_1, cg3_2, cp3_2, cg3_3, cp3_3, cg3_4, cp3_4, cg3_5, cp3_5, cg3_6, cp3_6, cg3_7, cp3_7, cg3_8, cp3_8, cck_4, cg4_0, cp4_0, cg4_1, cp4_1, cr4_2, cr4_3, cr4_4, cr4_5, cck_5, cg5_0, cp5_0, cr5_1, cr5_2, cr5_3, cck_6, cg6_0, cp6_0, cg6_1, cp6_1, cck_7, cg7_0, cp7_0, cg7_1, cp7_1, cr7_2, cr7_3, cr7_4, cr7_5, cr7_6, cr7_7, cr7_8, cck_8, cr8_0, cr8_1, cck_9, cr9_0, cr9_1, cr9_2, cr9_3, cg9_4, cp9_4, cck_10, cg10_0, cp10_0, cr10_1, cr10_2, cr10_3, cr10_4, cg10_5, cp10_5, cr10_6, cr10_7, cr10_8, cg10_9, cp10_9, cg10_10, cp10_10, cr10_11, cr10_12, cr10_13, cr10_14, cck_11, cr11_0, cg11_1, cp11_1, cr11_2, cr11_3, cr11_4, cr11_5, cr11_6, cr11_7, cr11_8, cr11_9, cr11_10, cr11_11, cr11_12, cr11_13, cr11_14, ca_30, cs_30, ca_31, cs_31, ca_32, cs_32, ca_33, cs_33, ca_34, cs_34, ca_35, cs_35, ca_36, cs_36, ca_37, cs_37, ca_38, cs_38, ca_39, cs_39, ca_40, cs_40, ca_41, cs_41, ca_42, cs_42, car_20, car_21, car_22, cq11_3, cq11_4, cq3_1, cq0_0, cq0_1, if_true, if_false, Option.bind_some, cb_e, lt_e, nI_1, hs_nar2, nh4, upd_at, vau_at, ca_42_0, cs_42_0, a1', b1', c1', f33, if_neg hz]
    exact ⟨F3, Ac, Bc, G3, _, B, _, _, crun, mrun, ⟨fun c q1 _ _ => by rw [c3 c q1, b3 c q1, a3 c q1], fun _ _ => rfl, fun _ _ => rfl⟩, mfm, fun q => absurd q cz, fun _ => ⟨c2, g10⟩⟩
end T86
