/-! ===== read ===== -/
theorem MText.eqR {A A' : Nat → Nat → Int32} {lv : Nat} {T : TD} (h : MText A lv T) (hT : GoodT T) (hlv : lv ≤ 1) (e : ∀ a j, ¬ SReg (1 - lv) a j → ¬ (2 ≤ a ∧ a ≤ 5) → A' a j = A a j) : MText A' lv T := by
  obtain ⟨h1, h2, h3, h4, h5, h6⟩ := h
  have n6 := hT.1
  have f6 := hT.2.2.2.1
  refine ⟨by rw [e 9 lv (by unfold SReg; omega) (by decide)]; exact h1, fun b hb => ?_, by rw [e 12 lv (by unfold SReg; omega) (by decide)]; exact h3, by rw [e 13 lv (by unfold SReg; omega) (by decide)]; exact h4, fun f hf => ?_, fun b hb => ?_⟩
  · rw [e 10 _ (by unfold SReg; omega) (by decide), e 11 _ (by unfold SReg; omega) (by decide)]
    exact h2 b hb
  · rw [e 14 _ (by unfold SReg; omega) (by decide), e 15 _ (by unfold SReg; omega) (by decide), e 16 _ (by unfold SReg; omega) (by decide)]
    exact h5 f hf
  · have h7 := h6 b hb
    cases hq : tLw T b with
    | none =>
      rw [hq] at h7
      show A' 18 (6 * lv + b) = A' 19 (6 * lv + b)
      rw [e 18 _ (by unfold SReg; omega) (by decide), e 19 _ (by unfold SReg; omega) (by decide)]
      exact h7
    | some f =>
      rw [hq] at h7
      refine LawM.eqR h7 (fun c j g1 g2 g3 => e c j ?_ (by omega))
      have d6 : (6 * lv + b) / 6 = lv := by omega
      rw [d6] at g3
      obtain ⟨m1, m2, m3⟩ := g3
      unfold SReg
      omega
theorem MText.eqT {A A' : Nat → Nat → Int32} {lv : Nat} {T : TD} (h : MText A lv T) (e : ∀ c, 9 ≤ c → c ≤ 26 → A' c = A c) : MText A' lv T := by
  obtain ⟨h1, h2, h3, h4, h5, h6⟩ := h
  unfold MText
  rw [e 9 (by decide) (by decide), e 10 (by decide) (by decide), e 11 (by decide) (by decide), e 12 (by decide) (by decide), e 13 (by decide) (by decide), e 14 (by decide) (by decide), e 15 (by decide) (by decide), e 16 (by decide) (by decide), e 18 (by decide) (by decide), e 19 (by decide) (by decide)]
  refine ⟨h1, h2, h3, h4, h5, fun b hb => ?_⟩
  have h7 := h6 b hb
  cases hq : tLw T b with
  | none => rw [hq] at h7; exact h7
  | some f => rw [hq] at h7; exact LawM.eq h7 (fun c g1 g2 => e c (by omega) g2)
section R9h
variable {F F' : Nat → Int32} {A A' : Nat → Nat → Int32} {B B' : Nat → Nat → Int64} {Fc Fc' Ac Ac' : Nat → Nat → Int32} {Bc Bc' : Nat → Nat → Int64} {rc rc' : Nat → Nat} {t lv : Nat} {T : TD} {u w : Nat} {ps : Nat → AP} {n7 : Nat} {sp : Nat → AP}
theorem Core.rd (hC : Core F A B Fc Ac Bc rc t lv T u w ps n7 sp) {d : Nat} (hrd : rc 1 = d) (h18 : F' 18 = F 18) (h55 : F' 55 = F 55) (h62 : F' 62 = F 62) (h17 : Fc' 37 4 = F' 17) (hA : ∀ a j, ¬ SReg (1 - lv) a j → ¬ (2 ≤ a ∧ a ≤ 5) → A' a j = A a j) (hB : B' 7 = B 7) (hFc : ∀ c, ¬ c = 0 → ¬ c = 2 → ¬ c = 37 → ¬ c = d → ¬ c = d + 11 → Fc' c = Fc c) (hAc : ∀ c, ¬ c = 4 → ¬ c = 5 → ¬ (d + 1 ≤ c ∧ c ≤ d + 14) → Ac' c = Ac c) (hBc : Bc' 3 = Bc 3) (hr : rc' 0 = rc 0 ∧ rc' 1 = rc 1) : Core F' A' B' Fc' Ac' Bc' rc' t lv T u w ps n7 sp := by
  obtain ⟨⟨a1, a2, a3, a4, a5⟩, ⟨b1, b2, b3⟩, ⟨c1, c2, c3, c4, c5, c6, c7, c8, c9, c10⟩, d1, ⟨e1, e2, e3, e4⟩, f1, f2⟩ := hC
  have td : (t = 7 ∧ d = 22) ∨ (t = 22 ∧ d = 7) := by omega
  have row : ∀ a, (30 ≤ a ∧ a ≤ 60) → A' a = A a := fun a ha => funext fun j => hA a j (by unfold SReg; omega) (by omega)
  have fc : ∀ c, (38 ≤ c) → Fc' c = Fc c := fun c hc => hFc c (by omega) (by omega) (by omega) (by omega) (by omega)
  have ac : ∀ c, (38 ≤ c) → Ac' c = Ac c := fun c hc => hAc c (by omega) (by omega) (by omega)
  refine ⟨⟨by rw [hr.2]; exact a1, by rw [hr.1]; exact a2, a3, by rw [h18]; exact a4, h17⟩, ⟨b1, b2.eqR b1 a3 hA, b3.eq (hFc t (by omega) (by omega) (by omega) (by omega) (by omega)) (fun c g1 g2 g3 => hAc c (by omega) (by omega) (by omega))⟩, ⟨c1, c2, by rw [h55]; exact c3, by rw [fc 49 (by decide)]; exact c4, by rw [fc 49 (by decide)]; exact c5, c6, fun j hj => (c7 j hj).eq (row 35 (by decide)), c8.eq (row 30 (by decide)), c9.eq (fc 38 (by decide)) (ac 39 (by decide)) (ac 40 (by decide)) (ac 41 (by decide)), ?_⟩, ?_, ⟨e1, by rw [h62]; exact e2, by rw [fc 69 (by decide)]; exact e3, ?_⟩, by rw [hB]; exact f1, by rw [hBc]; exact f2⟩
  · unfold Ring at *
    rw [ac 50 (by decide), ac 51 (by decide), ac 52 (by decide), ac 53 (by decide)]
    exact c10
  · intro s hs
    obtain ⟨g1, g2, g3⟩ := d1 s hs
    rw [row 42 (by decide), ac 56 (by decide)]
    refine ⟨g1, g2, fun h1 => ?_⟩
    obtain ⟨P, p1, p2, p3⟩ := g3 h1
    exact ⟨P, p1, p2.eq (row 43 (by decide)), p3.eq (fc _ (by omega)) (ac _ (by omega)) (ac _ (by omega)) (ac _ (by omega))⟩
  · intro j hj
    obtain ⟨g1, g2, g3⟩ := e4 j hj
    rw [row 39 (by decide)]
    exact ⟨g1, g2.eq (row 38 (by decide)), g3.eq (fc _ (by omega)) (fun c q1 q2 => ac c (by omega))⟩
end R9h
theorem rd_texts {d sd M : Nat} {PL : Nat → Nat} {Fc Ac : Nat → Nat → Int32} {Bc : Nat → Nat → Int64} {F : Nat → Int32} {A : Nat → Nat → Int32} {B : Nat → Nat → Int64} {t sl sp nb nf nc cc cm br : Nat} {g : Nat → List Nat} {T : TD} {lw : Nat → Option Bran} {P : AP} (hd : d = 7 ∨ d = 22) (ht : t ≤ 400) (h : RdP d sd PL Fc Bc F A B t sl sp nb nf nc cc cm br g) (hT : RdT d sd Fc Ac A nb nf nc cc cm br T lw P) : GoodT T ∧ MText A sd T ∧ CText Fc Ac d T := by
  obtain ⟨⟨p12, p19, psd⟩, _, ⟨p5, p6, p7, p8, p9⟩, ⟨q1, q2, q3⟩, ⟨q4, q5, q6⟩, ⟨q7, q8⟩, ⟨u1, u2, u3⟩, ⟨u4, u5, u6⟩, _⟩ := h
  obtain ⟨⟨t1, t2, t3, t4, t5⟩, t6, t7, ⟨t8, t9, t10⟩, ⟨t11, t12, t13⟩, t14, t15⟩ := hT
  refine ⟨t4, ⟨by rw [t2]; exact p7, fun b hb => ?_, t7.2, by rw [t3]; exact q3, fun f hf => ?_, fun b hb => ?_⟩, ⟨by rw [t2, ← t1]; exact q5, fun b hb => ?_, t7.1, by rw [t3]; exact t8, fun f hf => ?_, fun b hb => ?_, fun b hb => ?_⟩⟩
  · rw [t2] at hb
    exact ⟨(t6 b hb).1.2, (t6 b hb).2.2⟩
  · rw [t3] at hf
    obtain ⟨_, w2, w3, w4⟩ := t9 f hf
    exact ⟨w2, w3, w4⟩
  · rw [t2] at hb
    have h7 := t15 b hb
    rw [t5 b]
    cases hq : lw b with
    | none => rw [hq] at h7; exact h7.2
    | some x =>
      rw [hq] at h7
      obtain ⟨k1, _, b0, c0, k5, ⟨k6, k7⟩, ⟨k8, k9⟩, k10, k11⟩ := h7
      have d6 : (6 * sd + b) / 6 = sd := by omega
      exact LawM_of (at_ := 6 * sd + b) (by omega) k1 k5 (by omega) (by omega) k10 k11 (by rw [d6]; exact k6) (by rw [d6]; omega) (by rw [d6]; exact k8) (by rw [d6]; omega)
  · rw [t2] at hb
    exact ⟨(t6 b hb).1.1, (t6 b hb).2.1⟩
  · rw [t3] at hf
    exact (t9 f hf).1
  · rw [t2] at hb
    rw [t3]
    exact t10 b hb
  · rw [t2] at hb
    have h7 := t15 b hb
    rw [t5 b]
    cases hq : lw b with
    | none => rw [hq] at h7; exact h7.1
    | some x =>
      rw [hq] at h7
      obtain ⟨k1, ⟨st, k2, k3, k4⟩, _⟩ := h7
      have z1 : 0 < szC x.1 x.2 := by
        cases x.1 with
        | nil => unfold szC; omega
        | cons y l => unfold szC; omega
      exact ⟨st, by omega, k2, LawC_of hd k1 k3 q7 (by omega) k4⟩
theorem ag_read : Ag_ Rel fX11_read fX12_read := by
  intro σc σm hR
  obtain ⟨F, A, B, Fc, Ac, Bc, rc, t, lv, T, u, w, ps, n7, sp, rfl, rfl, ⟨n, hn, hF, hFc, hb⟩, hC⟩ := id hR
  obtain ⟨⟨a1, a2, a3, a4, a5⟩, _, ⟨_, c2, _, _, c5, _⟩, _, _, f1, f2⟩ := id hC
  obtain ⟨d, hrd⟩ : ∃ d, rc 1 = d := ⟨_, rfl⟩
  have hd : d = 7 ∨ d = 22 := by omega
  have td : (t = 7 ∧ d = 22) ∨ (t = 22 ∧ d = 7) := by omega
  obtain ⟨M, K, V, NM, PL, Fs, As, Bs, Fc1, F1, A1, B1, x1, x2, x3, x4, x5, x6, x7, x8, x9, x10, x11, x12⟩ := rd_start (r := rc) hd hn hF hFc hb a3 a4 f1 f2
  have hr2 : va_up rc 2 d 2 = d := vau_at _ _ _
  have hM := x4.1.2.1.1
  obtain ⟨Fc2, Ac2, Bc2, F2, A2, B2, y1, y2, y3, y4, y5⟩ := parse_go (r := va_up rc 2 d) hd hr2 (M + 1) 0 0 FU FU Fc1 As Bs F1 A1 B1 (by omega) (Nat.le_refl _) (by unfold FU; omega) (by unfold FU; omega) x4
  have Fo : ∀ k, ¬ k = 2 → ¬ k = 4 → ¬ (10 ≤ k ∧ k ≤ 16) → ¬ k = 19 → ¬ k = 20 → ¬ k = 33 → ¬ k = 39 → ¬ k = 43 → F2 k = F k := fun k q1 q2 q3 q4 q5 q6 q7 q8 => by rw [y4.1 k (by omega) q5 q6 q7 q8, x9 k q1 q2 q3 q4 q5 q6 q7]
  have F22 : F2 2 = nI 0 := by rw [y4.1 2 (by decide) (by decide) (by decide) (by decide) (by decide)]; exact x10
  have Ao : ∀ a j, ¬ SReg (1 - lv) a j → ¬ (2 ≤ a ∧ a ≤ 5) → A2 a j = A a j := fun a j q1 q2 => by rw [y4.2.1 a j q1, x11 a j q1 q2]
  have Bo : B2 7 = B 7 := by rw [y4.2.2 7 (by decide), x12 7 (by decide)]
  have Fco : ∀ c, ¬ c = 0 → ¬ c = 2 → ¬ c = 37 → ¬ c = d → ¬ c = d + 11 → Fc2 c = Fc c := fun c q1 q2 q3 q4 q5 => by rw [y3.1 c q3 q4 q5, x5 c q1 q2 q3 q4 q5]
  have Aco : ∀ c, ¬ c = 4 → ¬ c = 5 → ¬ (d + 1 ≤ c ∧ c ≤ d + 14) → Ac2 c = Ac c := fun c q1 q2 q3 => by rw [y3.2.1 c q3, x7 c q1 q2]
  have Bco : Bc2 3 = Bc 3 := by rw [y3.2.2 3 (by omega), x8 3 (by decide)]
  have Fc20 : Fc2 0 1 = nI 0 := by rw [y3.1 0 (by decide) (by omega) (by omega)]; exact x6
  have y1' : ∀ s, fX3_parse_b130 37 (mkC Fc2 Ac2 Bc2 (va_up rc 2 d)) = some ((), s) → fX3_parse_b7 FU 37 0 (mkC Fc1 As Bs (va_up rc 2 d)) = some ((), s) := fun s hs => y1.trans hs
  have rr : va_up rc 2 d 0 = rc 0 ∧ va_up rc 2 d 1 = rc 1 := ⟨vau_ne (by decide), vau_ne (by decide)⟩
  rcases y5 with ⟨t', ⟨⟨ht', tk, hcp, hmp⟩, sl, sq, nb, nf, nc, cc, cm, br, g, hP, hT⟩⟩ | ⟨fa, t', fz, w1, w2⟩
  · obtain ⟨_, ⟨s5, csl, msl, spl, sp0⟩, _⟩ := id hP
    have c33 : Fc2 37 3 = 0 := hcp.1
    have f13 : F2 13 = 0 := hmp.1
    have z0 : (0 : Int32) ≤ 0 := by decide
    have b130 : fX3_parse_b130 37 (mkC Fc2 Ac2 Bc2 (va_up rc 2 d)) = some ((), mkC (va_up Fc2 37 (upd (upd (Fc2 37) 3 (nI sl)) 4 (Fc2 37 6))) Ac2 Bc2 (va_up rc 2 d)) := by
      unfold fX3_parse_b130
      simp -implicitDefEqProofs (disch := first | assumption | omega | decide | exact And.intro (by omega) (by omega)) only [cck_0, cr0_0, cr0_1, cr0_2, cr0_3, cg0_4, cp0_4, cg0_5, cp0_5, cck_1, cg1_0, cp1_0, cr1_1, cr1_2, cr1_3, cg1_4, cp1_4, cg1_5, cp1_5, cr1_6, cr1_7, cck_2, cr2_0, cr2_1, cr2_2, cck_3, cr3_0, cr3_1, cg3_2, cp3_2, cg3_3, cp3_3, cg3_4, cp3_4, cg3_5, cp3_5, cg3_6, cp3_6, cg3_7, cp3_7, cg3_8, cp3_8, cck_4, cg4_0, cp4_0, cg4_1, cp4_1, cr4_2, cr4_3, cr4_4, cr4_5, cck_5, cg5_0, cp5_0, cr5_1, cr5_2, cr5_3, cck_6, cg6_0, cp6_0, cg6_1, cp6_1, cck_7, cg7_0, cp7_0, cg7_1, cp7_1, cr7_2, cr7_3, cr7_4, cr7_5, cr7_6, cr7_7, cr7_8, cck_8, cr8_0, cr8_1, cck_9, cr9_0, cr9_1, cr9_2, cr9_3, cg9_4, cp9_4, cck_10, cg10_0, cp10_0, cr10_1, cr10_2, cr10_3, cr10_4, cg10_5, cp10_5, cr10_6, cr10_7, cr10_8, cg10_9, cp10_9, cg10_10, cp10_10, cr10_11, cr10_12, cr10_13, cr10_14, cck_11, cr11_0, cg11_1, cp11_1, cr11_2, cr11_3, cr11_4, cr11_5, cr11_6, cr11_7, cr11_8, cr11_9, cr11_10, cr11_11, cr11_12, cr11_13, cr11_14, ca_30, cs_30, ca_31, cs_31, ca_32, cs_32, ca_33, cs_33, ca_34, cs_34, ca_35, cs_35, ca_36, cs_36, ca_37, cs_37, ca_38, cs_38, ca_39, cs_39, ca_40, cs_40, ca_41, cs_41, ca_42, cs_42, car_20, car_21, car_22, cq11_3, cq11_4, cq3_1, cq0_0, cq0_1, if_true, if_false, Option.bind_some, cb_e, lt_e, nI_1, hs_nar2, nh4, upd_at, vau_at, ca_42_0, cs_42_0, c33, csl, upd_ne, vau_vau]
    have q1' := y1' _ b130
    generalize hFe : va_up Fc2 37 (upd (upd (Fc2 37) 3 (nI sl)) 4 (Fc2 37 6)) = Fe at *
    have Feo : ∀ c, ¬ c = 37 → Fe c = Fc2 c := fun c hc => by rw [← hFe, vau_ne hc]
    have Fe3 : Fe 37 3 = nI sl := by rw [← hFe, vau_at, upd_ne (by decide), upd_at]
    have Fe4 : Fe 37 4 = Fc2 37 6 := by rw [← hFe, vau_at, upd_at]
    by_cases c0 : sl = 0
    · /- the text is good -/
      obtain ⟨T', lw, P, hTT⟩ := hT c0
      obtain ⟨g1, g2, g3⟩ := rd_texts (M := M) hd (by omega) hP hTT
      obtain ⟨⟨t1, t2, _⟩, _, _, _, ⟨t11, t12, t13⟩, _⟩ := hTT
      obtain ⟨⟨_, p19, psd⟩, _⟩ := id hP
      have Fe3' : Fe 37 3 = 0 := by rw [Fe3, c0]; rfl
      have f15 : F2 15 = 0 := by rw [msl, c0]; rfl
      obtain ⟨k0, k1, k2, k3, k4, k5, k6, k7, k8, k9, k10, kp⟩ := TA_of hd
      have nb6 := g1.1
      rw [t2] at nb6
      obtain ⟨F3, A3, i1, i2, i3⟩ := c_copyFrom (F := Fe) (A := Ac2) Bc2 (va_up (va_up (va_up rc 2 d) 0 d) 1 t) (h := 38) (h' := d + 11) (P := P) (PA_of (Or.inl rfl)) kp (by omega) (t11.eq (Feo _ (by omega)) rfl rfl rfl) t13.1 (fun i hi => by have := t13.2.1 i hi; show P.2.1 i < 6; omega) t13.2.2.2.2
      obtain ⟨A4, j1, j2, j3, j4⟩ := c_empty8 (Fc := va_up (va_up F3 49 (upd (F3 49) 0 0)) 69 (upd (F3 69) 0 0)) (B := Bc2) (r := va_up (va_up (va_up rc 2 d) 0 d) 1 t) 3 0 FU A3 (by omega) (by unfold FU; omega)
      obtain ⟨A5, m1, m2, m3, m4⟩ := m_rd297 (F := upd (upd F2 17 (-1)) 18 (nI (1 - lv))) (B := B2) psd (upd_at _ _ _) 20 0 FU A2 (by omega) (by unfold FU; omega)
      obtain ⟨A6, o1, o2, o3, o4⟩ := m_rd341 (F := upd (upd (upd (upd F2 17 (-1)) 18 (nI (1 - lv))) 55 0) 62 0) (B := B2) 3 0 FU A5 (by omega) (by unfold FU; omega)
      have i3o : ∀ c, ¬ c = 38 → F3 c = Fe c := i3.1
      have F337 : F3 37 3 = 0 := by rw [i3o 37 (by decide)]; exact Fe3'
      have hr0 : va_up rc 2 d 0 = t := by rw [vau_ne (by decide)]; exact a2
      have hr1 : va_up rc 2 d 1 = d := by rw [vau_ne (by decide)]; exact hrd
      have j1' : fX8_empty_b2 FU 54 0 (mkC (va_up (va_up F3 49 (upd (F3 49) 0 0)) 69 (upd (F3 69) 0 0)) A3 Bc2 (va_up (va_up (va_up rc 2 d) 0 d) 1 t)) = some ((), mkC (va_up (va_up F3 49 (upd (F3 49) 0 0)) 69 (upd (F3 69) 0 0)) A4 Bc2 (va_up (va_up (va_up rc 2 d) 0 d) 1 t)) := j1
      have o1' : fX12_read_b341 FU 0 0 (mkM (upd (upd (upd (upd F2 17 (-1)) 18 (nI (1 - lv))) 55 0) 62 0) A5 B2) = some (0, mkM (upd (upd (upd (upd F2 17 (-1)) 18 (nI (1 - lv))) 55 0) 62 0) A6 B2) := o1
      have m1' : fX12_read_b297 FU 0 0 (mkM (upd (upd F2 17 (-1)) 18 (nI (1 - lv))) A2 B2) = fX12_read_b329 0 (mkM (upd (upd F2 17 (-1)) 18 (nI (1 - lv))) A5 B2) := m1
      have hq1 : va_up (va_up rc 2 d) 0 d 0 = d := vau_at _ _ _
      have hq2 : va_up (va_up (va_up rc 2 d) 0 d) 1 t 0 = d := by rw [vau_ne (by decide), vau_at]
      have q37 : (va_up (va_up F3 49 (upd (F3 49) 0 0)) 69 (upd (F3 69) 0 0)) 37 3 = 0 := by rw [vau_ne (by decide), vau_ne (by decide)]; exact F337
      refine ⟨0, mkC (va_up (va_up F3 49 (upd (F3 49) 0 0)) 69 (upd (F3 69) 0 0)) A4 Bc2 (va_up (va_up (va_up rc 2 d) 0 d) 1 t), mkM (upd (upd (upd (upd F2 17 (-1)) 18 (nI (1 - lv))) 55 0) 62 0) A6 B2, ?_, ?_, rel_of (t := d) (lv := 1 - lv) (T := T') (u := 0) (w := w) (ps := fun _ => P) (n7 := 0) (sp := fun _ => P) ⟨0, by omega, ?_, ?_, fun i hi => absurd hi (Nat.not_lt_zero i)⟩ ⟨⟨?_, hq2, psd, ?_, ?_⟩, ⟨g1, ?_, ?_⟩, ⟨Nat.zero_le _, c2, ?_, ?_, ?_, fun _ _ => by rw [t2]; exact t13, fun j hj => absurd hj (Nat.not_lt_zero j), ?_, ?_, fun j hj => absurd hj (Nat.not_lt_zero j)⟩, fun s hs => ?_, ⟨Nat.zero_le _, ?_, ?_, fun j hj => absurd hj (Nat.not_lt_zero j)⟩, ?_, ?_⟩⟩
      · unfold fX11_read fX3_parse fX8_empty
        simp -implicitDefEqProofs (disch := first | assumption | omega | decide | exact And.intro (by omega) (by omega)) only [cck_0, cr0_0, cr0_1, cr0_2, cr0_3, cg0_4, cp0_4, cg0_5, cp0_5, cck_1, cg1_0, cp1_0, cr1_1, cr1_2, cr1_3, cg1_4, cp1_4, cg1_5, cp1_5, cr1_6, cr1_7, cck_2, cr2_0, cr2_1, cr2_2, cck_3, cr3_0, cr3_1, cg3_2, cp3_2, cg3_3, cp3_3, cg3_4, cp3_4, cg3_5, cp3_5, cg3_6, cp3_6, cg3_7, cp3_7, cg3_8, cp3_8, cck_4, cg4_0, cp4_0, cg4_1, cp4_1, cr4_2, cr4_3, cr4_4, cr4_5, cck_5, cg5_0, cp5_0, cr5_1, cr5_2, cr5_3, cck_6, cg6_0, cp6_0, cg6_1, cp6_1, cck_7, cg7_0, cp7_0, cg7_1, cp7_1, cr7_2, cr7_3, cr7_4, cr7_5, cr7_6, cr7_7, cr7_8, cck_8, cr8_0, cr8_1, cck_9, cr9_0, cr9_1, cr9_2, cr9_3, cg9_4, cp9_4, cck_10, cg10_0, cp10_0, cr10_1, cr10_2, cr10_3, cr10_4, cg10_5, cp10_5, cr10_6, cr10_7, cr10_8, cg10_9, cp10_9, cg10_10, cp10_10, cr10_11, cr10_12, cr10_13, cr10_14, cck_11, cr11_0, cg11_1, cp11_1, cr11_2, cr11_3, cr11_4, cr11_5, cr11_6, cr11_7, cr11_8, cr11_9, cr11_10, cr11_11, cr11_12, cr11_13, cr11_14, ca_30, cs_30, ca_31, cs_31, ca_32, cs_32, ca_33, cs_33, ca_34, cs_34, ca_35, cs_35, ca_36, cs_36, ca_37, cs_37, ca_38, cs_38, ca_39, cs_39, ca_40, cs_40, ca_41, cs_41, ca_42, cs_42, car_20, car_21, car_22, cq11_3, cq11_4, cq3_1, cq0_0, cq0_1, if_true, if_false, Option.bind_some, cb_e, lt_e, nI_1, hs_nar2, nh4, upd_at, vau_at, ca_42_0, cs_42_0, hFc, x1, hrd, x2, q1', Fe3', cq11_3, cq11_4, hr0, hr1, hq2, i1, vau_ne, j1', F337]
      · rw [x3, y2]
        unfold fX12_read_b230 fX12_read_b260
        simp -implicitDefEqProofs (disch := first | assumption | omega | decide | exact And.intro (by omega) (by omega)) only [mck, mg_0, mp_0, mr_1, mg_2, mp_2, mr_3, mg_4, mp_4, mr_5, mr_6, mr_7, mr_8, mr_9, mg_10, mp_10, mg_11, mp_11, mg_12, mp_12, mg_13, mp_13, mg_14, mp_14, mg_15, mp_15, mg_16, mp_16, mg_17, mp_17, mg_18, mp_18, mg_19, mp_19, mg_20, mp_20, mr_21, mr_22, mr_23, mr_24, mr_25, mr_26, mr_27, mr_28, mr_29, mr_30, mr_31, mr_32, mg_33, mp_33, mr_34, mr_35, mr_36, mr_37, mr_38, mg_39, mp_39, mr_40, mr_41, mr_42, mg_43, mp_43, mr_44, mr_45, mg_46, mp_46, mr_47, mr_48, mg_49, mp_49, mg_50, mp_50, mg_51, mp_51, mr_52, mr_53, mr_54, mg_55, mp_55, mr_56, mr_57, mg_58, mp_58, mg_59, mp_59, mg_60, mp_60, mr_61, mg_62, mp_62, mr_63, mr_64, mr_65, mr_66, mr_67, mr_68, ma_1, ms_1, ma_2, ms_2, ma_3, ms_3, ma_4, ms_4, ma_5, ms_5, ma_6, ms_6, ma_7, ms_7, ma_8, ms_8, ma_9, ms_9, ma_10, ms_10, ma_11, ms_11, ma_12, ms_12, ma_13, ms_13, ma_14, ms_14, ma_15, ms_15, ma_16, ms_16, ma_17, ms_17, ma_18, ms_18, ma_19, ms_19, ma_20, ms_20, ma_21, ms_21, ma_22, ms_22, ma_23, ms_23, ma_24, ms_24, ma_25, ms_25, ma_26, ms_26, ma_27, ms_27, ma_28, ms_28, ma_29, ms_29, ma_30, ms_30, ma_31, ms_31, ma_32, ms_32, ma_33, ms_33, ma_34, ms_34, ma_35, ms_35, ma_36, ms_36, ma_37, ms_37, ma_38, ms_38, ma_39, ms_39, ma_40, ms_40, ma_41, ms_41, ma_42, ms_42, ma_43, ms_43, if_true, if_false, Option.bind_some, cb_e, lt_e, nI_1, hs_nar2, nh4, upd_at, vau_at, ma_30_18, ms_30_18, ma_31_18, ms_31_18, ma_28_0, ms_28_0, ma_28_1, ms_28_1, ma_28_2, ms_28_2, ma_28_3, ms_28_3, ma_28_4, ms_28_4, ma_42_0, ms_42_0, ma_42_1, ms_42_1, ma_42_2, ms_42_2, ma_36_0, ms_36_0, f13, if_pos z0, f15, upd_ne, p19, m1']
        unfold fX12_read_b329
        simp -implicitDefEqProofs (disch := first | assumption | omega | decide | exact And.intro (by omega) (by omega)) only [mck, mg_0, mp_0, mr_1, mg_2, mp_2, mr_3, mg_4, mp_4, mr_5, mr_6, mr_7, mr_8, mr_9, mg_10, mp_10, mg_11, mp_11, mg_12, mp_12, mg_13, mp_13, mg_14, mp_14, mg_15, mp_15, mg_16, mp_16, mg_17, mp_17, mg_18, mp_18, mg_19, mp_19, mg_20, mp_20, mr_21, mr_22, mr_23, mr_24, mr_25, mr_26, mr_27, mr_28, mr_29, mr_30, mr_31, mr_32, mg_33, mp_33, mr_34, mr_35, mr_36, mr_37, mr_38, mg_39, mp_39, mr_40, mr_41, mr_42, mg_43, mp_43, mr_44, mr_45, mg_46, mp_46, mr_47, mr_48, mg_49, mp_49, mg_50, mp_50, mg_51, mp_51, mr_52, mr_53, mr_54, mg_55, mp_55, mr_56, mr_57, mg_58, mp_58, mg_59, mp_59, mg_60, mp_60, mr_61, mg_62, mp_62, mr_63, mr_64, mr_65, mr_66, mr_67, mr_68, ma_1, ms_1, ma_2, ms_2, ma_3, ms_3, ma_4, ms_4, ma_5, ms_5, ma_6, ms_6, ma_7, ms_7, ma_8, ms_8, ma_9, ms_9, ma_10, ms_10, ma_11, ms_11, ma_12, ms_12, ma_13, ms_13, ma_14, ms_14, ma_15, ms_15, ma_16, ms_16, ma_17, ms_17, ma_18, ms_18, ma_19, ms_19, ma_20, ms_20, ma_21, ms_21, ma_22, ms_22, ma_23, ms_23, ma_24, ms_24, ma_25, ms_25, ma_26, ms_26, ma_27, ms_27, ma_28, ms_28, ma_29, ms_29, ma_30, ms_30, ma_31, ms_31, ma_32, ms_32, ma_33, ms_33, ma_34, ms_34, ma_35, ms_35, ma_36, ms_36, ma_37, ms_37, ma_38, ms_38, ma_39, ms_39, ma_40, ms_40, ma_41, ms_41, ma_42, ms_42, ma_43, ms_43, if_true, if_false, Option.bind_some, cb_e, lt_e, nI_1, hs_nar2, nh4, upd_at, vau_at, ma_30_18, ms_30_18, ma_31_18, ms_31_18, ma_28_0, ms_28_0, ma_28_1, ms_28_1, ma_28_2, ms_28_2, ma_28_3, ms_28_3, ma_28_4, ms_28_4, ma_42_0, ms_42_0, ma_42_1, ms_42_1, ma_42_2, ms_42_2, ma_36_0, ms_36_0, o1']
      · rw [upd_ne (by decide), upd_ne (by decide), upd_ne (by decide), upd_ne (by decide)]
        exact F22
      · rw [vau_ne (by decide), vau_ne (by decide), i3o 0 (by decide), Feo 0 (by decide)]
        exact Fc20
      · have q : va_up (va_up (va_up rc 2 d) 0 d) 1 t 1 = t := vau_at _ _ _
        rw [q]
        omega
      · rw [upd_ne (by decide), upd_ne (by decide), upd_at]
      · rw [vau_ne (by decide), vau_ne (by decide), i3o 37 (by decide), Fe4, sp0 c0, upd_ne (by decide), upd_ne (by decide), upd_ne (by decide), upd_at]
      · exact g2.eqT (fun c h1 h2 => by rw [o2 c (by omega), m2 c (by omega)])
      · exact g3.eq (by rw [vau_ne (by omega), vau_ne (by omega), i3o d (by omega), Feo d (by omega)]) (fun c h1 h2 h3 => by rw [j2 c (by omega), i3.2 c (by omega) (by omega) (by omega)])
      · rw [upd_ne (by decide), upd_at]
        rfl
      · rw [vau_ne (by decide), vau_at, upd_at]
        rfl
      · rw [vau_ne (by decide), vau_at, upd_ne (by decide), i3o 49 (by decide), Feo 49 (by decide), Fco 49 (by decide) (by decide) (by decide) (by omega) (by omega)]
        exact c5
      · refine ⟨?_, fun i hi => ?_⟩
        · rw [o2 30 (by decide), m4 _ (by omega) (by omega)]
          exact t12.1
        · have l6 := t13.1
          have hi2 : i < P.1 := hi
          rw [o2 30 (by decide), m4 (0 + i) (by omega) (by omega), m4 (0 + 6 + i) (by omega) (by omega), m4 (0 + 12 + i) (by omega) (by omega)]
          have q := t12.2 i hi2
          simpa only [Nat.zero_add, Nat.add_assoc] using q
      · exact i2.eq (by rw [vau_ne (by decide), vau_ne (by decide)]) (j2 39 (by decide)) (j2 40 (by decide)) (j2 41 (by decide))
      · rw [o4 s (by omega) hs, j4 s (by omega) hs]
        exact ⟨rfl, Or.inl rfl, fun q => absurd q (by decide)⟩
      · rw [upd_at]
        rfl
      · rw [vau_at, upd_at]
        rfl
      · rw [Bo]; exact f1
      · rw [Bco]; exact f2
    · /- a slip -/
      obtain ⟨w1, w2, w3⟩ := spl c0
      have hz : ¬ nI sl = 0 := nI_ne0 (by omega) (by omega)
      have hz' : ¬ nI sl ≤ 0 := nI_nle (by omega) (by omega)
      refine ⟨nI sl, mkC Fe Ac2 Bc2 (va_up rc 2 d), mkM (upd F2 17 (F2 16)) A2 B2, ?_, ?_, rel_of (t := t) (lv := lv) (T := T) (u := u) (w := w) (ps := ps) (n7 := n7) (sp := sp) ⟨0, by omega, by rw [upd_ne (by decide)]; exact F22, by rw [Feo 0 (by decide)]; exact Fc20, fun i hi => absurd hi (Nat.not_lt_zero i)⟩ (hC.rd (Fc' := Fe) hrd (by rw [upd_ne (by decide)]; exact Fo 18 (by decide) (by decide) (by decide) (by decide) (by decide) (by decide) (by decide) (by decide)) (by rw [upd_ne (by decide)]; exact Fo 55 (by decide) (by decide) (by decide) (by decide) (by decide) (by decide) (by decide) (by decide)) (by rw [upd_ne (by decide)]; exact Fo 62 (by decide) (by decide) (by decide) (by decide) (by decide) (by decide) (by decide) (by decide)) (by rw [Fe4, upd_at, w1, w2]) Ao Bo (fun c z1 z2 z3 z4 z5 => by rw [Feo c z3]; exact Fco c z1 z2 z3 z4 z5) Aco Bco rr)⟩
      · unfold fX11_read fX3_parse
        simp -implicitDefEqProofs (disch := first | assumption | omega | decide | exact And.intro (by omega) (by omega)) only [cck_0, cr0_0, cr0_1, cr0_2, cr0_3, cg0_4, cp0_4, cg0_5, cp0_5, cck_1, cg1_0, cp1_0, cr1_1, cr1_2, cr1_3, cg1_4, cp1_4, cg1_5, cp1_5, cr1_6, cr1_7, cck_2, cr2_0, cr2_1, cr2_2, cck_3, cr3_0, cr3_1, cg3_2, cp3_2, cg3_3, cp3_3, cg3_4, cp3_4, cg3_5, cp3_5, cg3_6, cp3_6, cg3_7, cp3_7, cg3_8, cp3_8, cck_4, cg4_0, cp4_0, cg4_1, cp4_1, cr4_2, cr4_3, cr4_4, cr4_5, cck_5, cg5_0, cp5_0, cr5_1, cr5_2, cr5_3, cck_6, cg6_0, cp6_0, cg6_1, cp6_1, cck_7, cg7_0, cp7_0, cg7_1, cp7_1, cr7_2, cr7_3, cr7_4, cr7_5, cr7_6, cr7_7, cr7_8, cck_8, cr8_0, cr8_1, cck_9, cr9_0, cr9_1, cr9_2, cr9_3, cg9_4, cp9_4, cck_10, cg10_0, cp10_0, cr10_1, cr10_2, cr10_3, cr10_4, cg10_5, cp10_5, cr10_6, cr10_7, cr10_8, cg10_9, cp10_9, cg10_10, cp10_10, cr10_11, cr10_12, cr10_13, cr10_14, cck_11, cr11_0, cg11_1, cp11_1, cr11_2, cr11_3, cr11_4, cr11_5, cr11_6, cr11_7, cr11_8, cr11_9, cr11_10, cr11_11, cr11_12, cr11_13, cr11_14, ca_30, cs_30, ca_31, cs_31, ca_32, cs_32, ca_33, cs_33, ca_34, cs_34, ca_35, cs_35, ca_36, cs_36, ca_37, cs_37, ca_38, cs_38, ca_39, cs_39, ca_40, cs_40, ca_41, cs_41, ca_42, cs_42, car_20, car_21, car_22, cq11_3, cq11_4, cq3_1, cq0_0, cq0_1, if_true, if_false, Option.bind_some, cb_e, lt_e, nI_1, hs_nar2, nh4, upd_at, vau_at, ca_42_0, cs_42_0, hFc, x1, hrd, x2, q1', if_neg hz, Fe3]
      · rw [x3, y2]
        unfold fX12_read_b230 fX12_read_b260
        simp -implicitDefEqProofs (disch := first | assumption | omega | decide | exact And.intro (by omega) (by omega)) only [mck, mg_0, mp_0, mr_1, mg_2, mp_2, mr_3, mg_4, mp_4, mr_5, mr_6, mr_7, mr_8, mr_9, mg_10, mp_10, mg_11, mp_11, mg_12, mp_12, mg_13, mp_13, mg_14, mp_14, mg_15, mp_15, mg_16, mp_16, mg_17, mp_17, mg_18, mp_18, mg_19, mp_19, mg_20, mp_20, mr_21, mr_22, mr_23, mr_24, mr_25, mr_26, mr_27, mr_28, mr_29, mr_30, mr_31, mr_32, mg_33, mp_33, mr_34, mr_35, mr_36, mr_37, mr_38, mg_39, mp_39, mr_40, mr_41, mr_42, mg_43, mp_43, mr_44, mr_45, mg_46, mp_46, mr_47, mr_48, mg_49, mp_49, mg_50, mp_50, mg_51, mp_51, mr_52, mr_53, mr_54, mg_55, mp_55, mr_56, mr_57, mg_58, mp_58, mg_59, mp_59, mg_60, mp_60, mr_61, mg_62, mp_62, mr_63, mr_64, mr_65, mr_66, mr_67, mr_68, ma_1, ms_1, ma_2, ms_2, ma_3, ms_3, ma_4, ms_4, ma_5, ms_5, ma_6, ms_6, ma_7, ms_7, ma_8, ms_8, ma_9, ms_9, ma_10, ms_10, ma_11, ms_11, ma_12, ms_12, ma_13, ms_13, ma_14, ms_14, ma_15, ms_15, ma_16, ms_16, ma_17, ms_17, ma_18, ms_18, ma_19, ms_19, ma_20, ms_20, ma_21, ms_21, ma_22, ms_22, ma_23, ms_23, ma_24, ms_24, ma_25, ms_25, ma_26, ms_26, ma_27, ms_27, ma_28, ms_28, ma_29, ms_29, ma_30, ms_30, ma_31, ms_31, ma_32, ms_32, ma_33, ms_33, ma_34, ms_34, ma_35, ms_35, ma_36, ms_36, ma_37, ms_37, ma_38, ms_38, ma_39, ms_39, ma_40, ms_40, ma_41, ms_41, ma_42, ms_42, ma_43, ms_43, if_true, if_false, Option.bind_some, cb_e, lt_e, nI_1, hs_nar2, nh4, upd_at, vau_at, ma_30_18, ms_30_18, ma_31_18, ms_31_18, ma_28_0, ms_28_0, ma_28_1, ms_28_1, ma_28_2, ms_28_2, ma_28_3, ms_28_3, ma_28_4, ms_28_4, ma_42_0, ms_42_0, ma_42_1, ms_42_1, ma_42_2, ms_42_2, ma_36_0, ms_36_0, f13, if_pos z0, if_neg hz', upd_ne, msl]
  · /- a fault -/
    have l2 := w1.2.2.2
    have c33 := w1.1
    have f13 := w2.1
    have hz : ¬ nI fa = 0 := nI_ne0 (by omega) (by omega)
    have hz' : ¬ nI fa ≤ 0 := nI_nle (by omega) (by omega)
    have b130 : fX3_parse_b130 37 (mkC Fc2 Ac2 Bc2 (va_up rc 2 d)) = some ((), mkC Fc2 Ac2 Bc2 (va_up rc 2 d)) := by
      unfold fX3_parse_b130
      simp -implicitDefEqProofs (disch := first | assumption | omega | decide | exact And.intro (by omega) (by omega)) only [cck_0, cr0_0, cr0_1, cr0_2, cr0_3, cg0_4, cp0_4, cg0_5, cp0_5, cck_1, cg1_0, cp1_0, cr1_1, cr1_2, cr1_3, cg1_4, cp1_4, cg1_5, cp1_5, cr1_6, cr1_7, cck_2, cr2_0, cr2_1, cr2_2, cck_3, cr3_0, cr3_1, cg3_2, cp3_2, cg3_3, cp3_3, cg3_4, cp3_4, cg3_5, cp3_5, cg3_6, cp3_6, cg3_7, cp3_7, cg3_8, cp3_8, cck_4, cg4_0, cp4_0, cg4_1, cp4_1, cr4_2, cr4_3, cr4_4, cr4_5, cck_5, cg5_0, cp5_0, cr5_1, cr5_2, cr5_3, cck_6, cg6_0, cp6_0, cg6_1, cp6_1, cck_7, cg7_0, cp7_0, cg7_1, cp7_1, cr7_2, cr7_3, cr7_4, cr7_5, cr7_6, cr7_7, cr7_8, cck_8, cr8_0, cr8_1, cck_9, cr9_0, cr9_1, cr9_2, cr9_3, cg9_4, cp9_4, cck_10, cg10_0, cp10_0, cr10_1, cr10_2, cr10_3, cr10_4, cg10_5, cp10_5, cr10_6, cr10_7, cr10_8, cg10_9, cp10_9, cg10_10, cp10_10, cr10_11, cr10_12, cr10_13, cr10_14, cck_11, cr11_0, cg11_1, cp11_1, cr11_2, cr11_3, cr11_4, cr11_5, cr11_6, cr11_7, cr11_8, cr11_9, cr11_10, cr11_11, cr11_12, cr11_13, cr11_14, ca_30, cs_30, ca_31, cs_31, ca_32, cs_32, ca_33, cs_33, ca_34, cs_34, ca_35, cs_35, ca_36, cs_36, ca_37, cs_37, ca_38, cs_38, ca_39, cs_39, ca_40, cs_40, ca_41, cs_41, ca_42, cs_42, car_20, car_21, car_22, cq11_3, cq11_4, cq3_1, cq0_0, cq0_1, if_true, if_false, Option.bind_some, cb_e, lt_e, nI_1, hs_nar2, nh4, upd_at, vau_at, ca_42_0, cs_42_0, c33, if_neg hz]
    have q1' := y1' _ b130
    refine ⟨nI fa, mkC Fc2 Ac2 Bc2 (va_up rc 2 d), mkM (upd F2 17 (F2 14)) A2 B2, ?_, ?_, rel_of (t := t) (lv := lv) (T := T) (u := u) (w := w) (ps := ps) (n7 := n7) (sp := sp) ⟨0, by omega, by rw [upd_ne (by decide)]; exact F22, Fc20, fun i hi => absurd hi (Nat.not_lt_zero i)⟩ (hC.rd (Fc' := Fc2) hrd (by rw [upd_ne (by decide)]; exact Fo 18 (by decide) (by decide) (by decide) (by decide) (by decide) (by decide) (by decide) (by decide)) (by rw [upd_ne (by decide)]; exact Fo 55 (by decide) (by decide) (by decide) (by decide) (by decide) (by decide) (by decide) (by decide)) (by rw [upd_ne (by decide)]; exact Fo 62 (by decide) (by decide) (by decide) (by decide) (by decide) (by decide) (by decide) (by decide)) (by rw [upd_at, w1.2.2.1 fz, w2.2.2.1 fz]) Ao Bo Fco Aco Bco rr)⟩
    · unfold fX11_read fX3_parse
      simp -implicitDefEqProofs (disch := first | assumption | omega | decide | exact And.intro (by omega) (by omega)) only [cck_0, cr0_0, cr0_1, cr0_2, cr0_3, cg0_4, cp0_4, cg0_5, cp0_5, cck_1, cg1_0, cp1_0, cr1_1, cr1_2, cr1_3, cg1_4, cp1_4, cg1_5, cp1_5, cr1_6, cr1_7, cck_2, cr2_0, cr2_1, cr2_2, cck_3, cr3_0, cr3_1, cg3_2, cp3_2, cg3_3, cp3_3, cg3_4, cp3_4, cg3_5, cp3_5, cg3_6, cp3_6, cg3_7, cp3_7, cg3_8, cp3_8, cck_4, cg4_0, cp4_0, cg4_1, cp4_1, cr4_2, cr4_3, cr4_4, cr4_5, cck_5, cg5_0, cp5_0, cr5_1, cr5_2, cr5_3, cck_6, cg6_0, cp6_0, cg6_1, cp6_1, cck_7, cg7_0, cp7_0, cg7_1, cp7_1, cr7_2, cr7_3, cr7_4, cr7_5, cr7_6, cr7_7, cr7_8, cck_8, cr8_0, cr8_1, cck_9, cr9_0, cr9_1, cr9_2, cr9_3, cg9_4, cp9_4, cck_10, cg10_0, cp10_0, cr10_1, cr10_2, cr10_3, cr10_4, cg10_5, cp10_5, cr10_6, cr10_7, cr10_8, cg10_9, cp10_9, cg10_10, cp10_10, cr10_11, cr10_12, cr10_13, cr10_14, cck_11, cr11_0, cg11_1, cp11_1, cr11_2, cr11_3, cr11_4, cr11_5, cr11_6, cr11_7, cr11_8, cr11_9, cr11_10, cr11_11, cr11_12, cr11_13, cr11_14, ca_30, cs_30, ca_31, cs_31, ca_32, cs_32, ca_33, cs_33, ca_34, cs_34, ca_35, cs_35, ca_36, cs_36, ca_37, cs_37, ca_38, cs_38, ca_39, cs_39, ca_40, cs_40, ca_41, cs_41, ca_42, cs_42, car_20, car_21, car_22, cq11_3, cq11_4, cq3_1, cq0_0, cq0_1, if_true, if_false, Option.bind_some, cb_e, lt_e, nI_1, hs_nar2, nh4, upd_at, vau_at, ca_42_0, cs_42_0, hFc, x1, hrd, x2, q1', if_neg hz, c33]
    · rw [x3, y2]
      unfold fX12_read_b230 fX12_read_b260
      simp -implicitDefEqProofs (disch := first | assumption | omega | decide | exact And.intro (by omega) (by omega)) only [mck, mg_0, mp_0, mr_1, mg_2, mp_2, mr_3, mg_4, mp_4, mr_5, mr_6, mr_7, mr_8, mr_9, mg_10, mp_10, mg_11, mp_11, mg_12, mp_12, mg_13, mp_13, mg_14, mp_14, mg_15, mp_15, mg_16, mp_16, mg_17, mp_17, mg_18, mp_18, mg_19, mp_19, mg_20, mp_20, mr_21, mr_22, mr_23, mr_24, mr_25, mr_26, mr_27, mr_28, mr_29, mr_30, mr_31, mr_32, mg_33, mp_33, mr_34, mr_35, mr_36, mr_37, mr_38, mg_39, mp_39, mr_40, mr_41, mr_42, mg_43, mp_43, mr_44, mr_45, mg_46, mp_46, mr_47, mr_48, mg_49, mp_49, mg_50, mp_50, mg_51, mp_51, mr_52, mr_53, mr_54, mg_55, mp_55, mr_56, mr_57, mg_58, mp_58, mg_59, mp_59, mg_60, mp_60, mr_61, mg_62, mp_62, mr_63, mr_64, mr_65, mr_66, mr_67, mr_68, ma_1, ms_1, ma_2, ms_2, ma_3, ms_3, ma_4, ms_4, ma_5, ms_5, ma_6, ms_6, ma_7, ms_7, ma_8, ms_8, ma_9, ms_9, ma_10, ms_10, ma_11, ms_11, ma_12, ms_12, ma_13, ms_13, ma_14, ms_14, ma_15, ms_15, ma_16, ms_16, ma_17, ms_17, ma_18, ms_18, ma_19, ms_19, ma_20, ms_20, ma_21, ms_21, ma_22, ms_22, ma_23, ms_23, ma_24, ms_24, ma_25, ms_25, ma_26, ms_26, ma_27, ms_27, ma_28, ms_28, ma_29, ms_29, ma_30, ms_30, ma_31, ms_31, ma_32, ms_32, ma_33, ms_33, ma_34, ms_34, ma_35, ms_35, ma_36, ms_36, ma_37, ms_37, ma_38, ms_38, ma_39, ms_39, ma_40, ms_40, ma_41, ms_41, ma_42, ms_42, ma_43, ms_43, if_true, if_false, Option.bind_some, cb_e, lt_e, nI_1, hs_nar2, nh4, upd_at, vau_at, ma_30_18, ms_30_18, ma_31_18, ms_31_18, ma_28_0, ms_28_0, ma_28_1, ms_28_1, ma_28_2, ms_28_2, ma_28_3, ms_28_3, ma_28_4, ms_28_4, ma_42_0, ms_42_0, ma_42_1, ms_42_1, ma_42_2, ms_42_2, ma_36_0, ms_36_0, if_neg hz', upd_ne, f13]
