/-! ===== a pile is told, in both ===== -/
section P98
variable {d sd M : Nat} {K V : Nat → Nat} {NM : Nat → List Nat} {PL : Nat → Nat} {r : Nat → Nat}
/-- what holds of the piles while their books are told -/
def PlI (d sd nc : Nat) (Fc Ac : Nat → Nat → Int32) (A : Nat → Nat → Int32) (n s : Nat) (hs : Int32) (P : AP) : Prop := (CPile Fc Ac (d + 11) P ∧ GoodP nc P) ∧ P.1 = n ∧ (∀ i, i < n → A 17 (20 * sd + i) = nI (P.2.1 i) ∧ A 17 (20 * sd + 6 + i) = iI (P.2.2.1 i) ∧ A 17 (20 * sd + 12 + i) = P.2.2.2 i) ∧ (hs = nI s ∧ s < 64) ∧ ∀ b, b < 6 → (s / 2 ^ b % 2 = 1 ↔ ∃ i, i < n ∧ P.2.1 i = b)
/-- the end of a pile: its last token, how many -/
theorem pile_end {Fc Ac : Nat → Nat → Int32} {Bc : Nat → Nat → Int64} {F : Nat → Int32} {A : Nat → Nat → Int32} {B : Nat → Nat → Int64} {s : Nat × Nat} {n : Nat} (hK : TkK M K V) (hsd : sd ≤ 1) (hs : s.2 ≤ M) (hcp : CPo Fc PL s.1 s.2) (ck : CTk Ac Bc M K V PL) (hmp : MPo F PL s.1 s.2) (mk : MTk A M K V PL) (h19 : F 19 = nI sd) (hn : n ≤ 500) : ∃ Fc' F' A', fX3_tellPile_b60 37 (mkC Fc Ac Bc r) = some ((), mkC Fc' Ac Bc r) ∧ fX12_tellPile_b228 0 (nI n) (mkM F A B) = some ((), mkM F' A' B) ∧ CPo Fc' PL (stp K 59 s).1 (stp K 59 s).2 ∧ MPo F' PL (stp K 59 s).1 (stp K 59 s).2 ∧ (∀ c, ¬ c = 37 → Fc' c = Fc c) ∧ (∀ k, ¬ k = 2 → ¬ k = 3 → ¬ k = 4 → Fc' 37 k = Fc 37 k) ∧ (∀ k, ¬ k = 11 → ¬ k = 13 → ¬ k = 14 → F' k = F k) ∧ A' = va_up A 17 (upd (A 17) (20 * sd + 18) (nI (min n 6))) := by
  obtain ⟨F1, x1, a1, a2, a3, a4, a5⟩ := c_stp (Bc := Bc) (r := r) hK (k := 59) hs hcp ck (by decide) (by decide)
  obtain ⟨G1, b1, b2, b3⟩ := m_stp (B := B) hK (k := 59) hs hmp mk rfl (by decide)
  have a1' : fX3_take 37 59 (mkC Fc Ac Bc r) = some (x1, mkC F1 Ac Bc r) := a1
  have b1' : fX12_must 0 4 (mkM F A B) = some ((), mkM G1 A B) := b1
  have g19 : G1 19 = nI sd := by rw [b3 19 (by decide) (by decide) (by decide)]; exact h19
  have i40 : 20 * sd + 18 < 40 := by omega
  refine ⟨F1, G1, _, ?_, ?_, a2, b2, a3, a4, b3, rfl⟩
  · unfold fX3_tellPile_b60
    simp -implicitDefEqProofs (disch := first | assumption | omega | decide | exact And.intro (by omega) (by omega)) only [cck_0, cr0_0, cr0_1, cr0_2, cr0_3, cg0_4, cp0_4, cg0_5, cp0_5, cck_1, cg1_0, cp1_0, cr1_1, cr1_2, cr1_3, cg1_4, cp1_4, cg1_5, cp1_5, cr1_6, cr1_7, cck_2, cr2_0, cr2_1, cr2_2, cck_3, cr3_0, cr3_1, cg3_2, cp3_2, cg3_3, cp3_3, cg3_4, cp3_4, cg3_5, cp3_5, cg3_6, cp3_6, cg3_7, cp3_7, cg3_8, cp3_8, cck_4, cg4_0, cp4_0, cg4_1, cp4_1, cr4_2, cr4_3, cr4_4, cr4_5, cck_5, cg5_0, cp5_0, cr5_1, cr5_2, cr5_3, cck_6, cg6_0, cp6_0, cg6_1, cp6_1, cck_7, cg7_0, cp7_0, cg7_1, cp7_1, cr7_2, cr7_3, cr7_4, cr7_5, cr7_6, cr7_7, cr7_8, cck_8, cr8_0, cr8_1, cck_9, cr9_0, cr9_1, cr9_2, cr9_3, cg9_4, cp9_4, cck_10, cg10_0, cp10_0, cr10_1, cr10_2, cr10_3, cr10_4, cg10_5, cp10_5, cr10_6, cr10_7, cr10_8, cg10_9, cp10_9, cg10_10, cp10_10, cr10_11, cr10_12, cr10_13, cr10_14, cck_11, cr11_0, cg11_1, cp11_1, cr11_2, cr11_3, cr11_4, cr11_5, cr11_6, cr11_7, cr11_8, cr11_9, cr11_10, cr11_11, cr11_12, cr11_13, cr11_14, ca_30, cs_30, ca_31, cs_31, ca_32, cs_32, ca_33, cs_33, ca_34, cs_34, ca_35, cs_35, ca_36, cs_36, ca_37, cs_37, ca_38, cs_38, ca_39, cs_39, ca_40, cs_40, ca_41, cs_41, ca_42, cs_42, car_20, car_21, car_22, cq11_3, cq11_4, cq3_1, cq0_0, cq0_1, if_true, if_false, Option.bind_some, cb_e, lt_e, nI_1, hs_nar2, nh4, upd_at, vau_at, ca_42_0, cs_42_0, a1']
  · unfold fX12_tellPile_b228
    by_cases c : 6 ≤ n
    · have n6 : (6 : Int32) ≤ nI n := nI_le (a := 6) c (by omega)
      rw [show min n 6 = 6 by omega]
      simp -implicitDefEqProofs (disch := first | assumption | omega | decide | exact And.intro (by omega) (by omega)) only [mck, mg_0, mp_0, mr_1, mg_2, mp_2, mr_3, mg_4, mp_4, mr_5, mr_6, mr_7, mr_8, mr_9, mg_10, mp_10, mg_11, mp_11, mg_12, mp_12, mg_13, mp_13, mg_14, mp_14, mg_15, mp_15, mg_16, mp_16, mg_17, mp_17, mg_18, mp_18, mg_19, mp_19, mg_20, mp_20, mr_21, mr_22, mr_23, mr_24, mr_25, mr_26, mr_27, mr_28, mr_29, mr_30, mr_31, mr_32, mg_33, mp_33, mr_34, mr_35, mr_36, mr_37, mr_38, mg_39, mp_39, mr_40, mr_41, mr_42, mg_43, mp_43, mr_44, mr_45, mg_46, mp_46, mr_47, mr_48, mg_49, mp_49, mg_50, mp_50, mg_51, mp_51, mr_52, mr_53, mr_54, mg_55, mp_55, mr_56, mr_57, mg_58, mp_58, mg_59, mp_59, mg_60, mp_60, mr_61, mg_62, mp_62, mr_63, mr_64, mr_65, mr_66, mr_67, mr_68, ma_1, ms_1, ma_2, ms_2, ma_3, ms_3, ma_4, ms_4, ma_5, ms_5, ma_6, ms_6, ma_7, ms_7, ma_8, ms_8, ma_9, ms_9, ma_10, ms_10, ma_11, ms_11, ma_12, ms_12, ma_13, ms_13, ma_14, ms_14, ma_15, ms_15, ma_16, ms_16, ma_17, ms_17, ma_18, ms_18, ma_19, ms_19, ma_20, ms_20, ma_21, ms_21, ma_22, ms_22, ma_23, ms_23, ma_24, ms_24, ma_25, ms_25, ma_26, ms_26, ma_27, ms_27, ma_28, ms_28, ma_29, ms_29, ma_30, ms_30, ma_31, ms_31, ma_32, ms_32, ma_33, ms_33, ma_34, ms_34, ma_35, ms_35, ma_36, ms_36, ma_37, ms_37, ma_38, ms_38, ma_39, ms_39, ma_40, ms_40, ma_41, ms_41, ma_42, ms_42, ma_43, ms_43, if_true, if_false, Option.bind_some, cb_e, lt_e, nI_1, hs_nar2, nh4, upd_at, vau_at, ma_30_18, ms_30_18, ma_31_18, ms_31_18, ma_28_0, ms_28_0, ma_28_1, ms_28_1, ma_28_2, ms_28_2, ma_28_3, ms_28_3, ma_28_4, ms_28_4, ma_42_0, ms_42_0, ma_42_1, ms_42_1, ma_42_2, ms_42_2, ma_36_0, ms_36_0, b1', g19, twe18_nI, if_pos n6]
      rfl
    · have n6 : ¬ (6 : Int32) ≤ nI n := nI_ge (b := 6) (by omega) (by decide)
      rw [show min n 6 = n by omega]
      simp -implicitDefEqProofs (disch := first | assumption | omega | decide | exact And.intro (by omega) (by omega)) only [mck, mg_0, mp_0, mr_1, mg_2, mp_2, mr_3, mg_4, mp_4, mr_5, mr_6, mr_7, mr_8, mr_9, mg_10, mp_10, mg_11, mp_11, mg_12, mp_12, mg_13, mp_13, mg_14, mp_14, mg_15, mp_15, mg_16, mp_16, mg_17, mp_17, mg_18, mp_18, mg_19, mp_19, mg_20, mp_20, mr_21, mr_22, mr_23, mr_24, mr_25, mr_26, mr_27, mr_28, mr_29, mr_30, mr_31, mr_32, mg_33, mp_33, mr_34, mr_35, mr_36, mr_37, mr_38, mg_39, mp_39, mr_40, mr_41, mr_42, mg_43, mp_43, mr_44, mr_45, mg_46, mp_46, mr_47, mr_48, mg_49, mp_49, mg_50, mp_50, mg_51, mp_51, mr_52, mr_53, mr_54, mg_55, mp_55, mr_56, mr_57, mg_58, mp_58, mg_59, mp_59, mg_60, mp_60, mr_61, mg_62, mp_62, mr_63, mr_64, mr_65, mr_66, mr_67, mr_68, ma_1, ms_1, ma_2, ms_2, ma_3, ms_3, ma_4, ms_4, ma_5, ms_5, ma_6, ms_6, ma_7, ms_7, ma_8, ms_8, ma_9, ms_9, ma_10, ms_10, ma_11, ms_11, ma_12, ms_12, ma_13, ms_13, ma_14, ms_14, ma_15, ms_15, ma_16, ms_16, ma_17, ms_17, ma_18, ms_18, ma_19, ms_19, ma_20, ms_20, ma_21, ms_21, ma_22, ms_22, ma_23, ms_23, ma_24, ms_24, ma_25, ms_25, ma_26, ms_26, ma_27, ms_27, ma_28, ms_28, ma_29, ms_29, ma_30, ms_30, ma_31, ms_31, ma_32, ms_32, ma_33, ms_33, ma_34, ms_34, ma_35, ms_35, ma_36, ms_36, ma_37, ms_37, ma_38, ms_38, ma_39, ms_39, ma_40, ms_40, ma_41, ms_41, ma_42, ms_42, ma_43, ms_43, if_true, if_false, Option.bind_some, cb_e, lt_e, nI_1, hs_nar2, nh4, upd_at, vau_at, ma_30_18, ms_30_18, ma_31_18, ms_31_18, ma_28_0, ms_28_0, ma_28_1, ms_28_1, ma_28_2, ms_28_2, ma_28_3, ms_28_3, ma_28_4, ms_28_4, ma_42_0, ms_42_0, ma_42_1, ms_42_1, ma_42_2, ms_42_2, ma_36_0, ms_36_0, b1', g19, twe18_nI, if_neg n6]
/-- the loops -/
theorem pile_go {Bc : Nat → Nat → Int64} {B : Nat → Nat → Int64} {nb nc : Nat} {g : Nat → List Nat} (hd : d = 7 ∨ d = 22) (hr : r 2 = d) (hsd : sd ≤ 1) (hK : TkK M K V) (hcn : ∀ j, j ≤ M → K j = 16 → Bc 6 j = jN (cN 32 (NM j)) ∧ Nam (NM j)) (hmn : ∀ j, j ≤ M → K j = 16 → B 6 j = jN (cN 27 (NM j)) ∧ Nam (NM j)) (hmono : ∀ a b, a < b → b ≤ M → PL a < PL b) (hpl : ∀ a, a ≤ M → PL a ≤ 2000) (hnc : nc ≤ 6) (hnb : nb ≤ 6) (hgc : ∀ i, i < nc → Bc (d + 1) i = jN (cN 32 (g i)) ∧ Nam (g i)) (hgm : ∀ i, i < nb → B 8 i = jN (cN 27 (g i)) ∧ Nam (g i)) : ∀ m t n i s fc fm w (hs : Int32) (P : AP) (q : Nat) (Fc Ac : Nat → Nat → Int32) (F : Nat → Int32) (A : Nat → Nat → Int32), M < t + m → t ≤ M → n ≤ t → i ≤ t → m < fc → m < fm → CPo Fc PL 0 t → CTk Ac Bc M K V PL → MPo F PL 0 t → MTk A M K V PL → SlC Fc w → SlM F w → (¬ w.1 = 0 → w.2 < PL t) → Fc d 0 = nI nc → F 19 = nI sd → F 20 = nI nb → (q ≤ 6 ∧ Fc (d + 11) 0 = nI q) → (w.1 = 0 → nc = nb ∧ PlI d sd nc Fc Ac A n s hs P) → ∃ Fc' Ac' F' A' fa t', fX3_tellPile_b19 fc 37 (nI i) (mkC Fc Ac Bc r) = some ((), mkC Fc' Ac' Bc r) ∧ fX12_tellPile_b4 fm 0 (nI n) hs (mkM F A B) = some ((), mkM F' A' B) ∧ (CPo Fc' PL fa t' ∧ MPo F' PL fa t') ∧ (∀ c, ¬ c = 37 → ¬ c = d + 11 → Fc' c = Fc c) ∧ (∀ k, ¬ (2 ≤ k ∧ k ≤ 6) → Fc' 37 k = Fc 37 k) ∧ (∀ c, ¬ c = d + 12 → ¬ c = d + 13 → ¬ c = d + 14 → Ac' c = Ac c) ∧ (∀ k, ¬ (11 ≤ k ∧ k ≤ 16) → F' k = F k) ∧ F' 12 = F 12 ∧ (∀ a, ¬ a = 17 → A' a = A a) ∧ (∀ j, ¬ (20 * sd ≤ j ∧ j < 20 * sd + 20) → A' 17 j = A 17 j) ∧ (fa = 0 → (t < t' ∧ t' ≤ M) ∧ (∃ q', q' ≤ 6 ∧ Fc' (d + 11) 0 = nI q') ∧ ∃ w', (SlC Fc' w' ∧ SlM F' w' ∧ (¬ w'.1 = 0 → w'.2 < PL t')) ∧ (w'.1 = 0 → w.1 = 0 ∧ ∃ P', CPile Fc' Ac' (d + 11) P' ∧ MPile A' 17 (20 * sd) P' ∧ GoodP nc P'))
  | 0, t, n, i, s, fc, fm, w, hs, P, q, Fc, Ac, F, A, h1, h2, _, _, _, _, _, _, _, _, _, _, _, _, _, _, _, _ => by omega
  | m + 1, t, n, i, s, fc, fm, w, hs, P, q, Fc, Ac, F, A, h1, h2, h3, h4, h5, h6, hcp, ck, hmp, mtk, hwc, hwm, hlt, h0, h19, h20, hq, hI => by
    have hM := hK.1
    obtain ⟨fc, rfl⟩ : ∃ q, fc = q + 1 := ⟨fc - 1, by omega⟩
    obtain ⟨fm, rfl⟩ : ∃ q, fm = q + 1 := ⟨fm - 1, by omega⟩
    have i4 : ¬ (400 : Int32) < nI i := nI_nlt (a := 400) (b := i) (by omega) (by decide)
    have c33 : Fc 37 3 = 0 := hcp.1
    have f13 : F 13 = 0 := hmp.1
    obtain ⟨x, x1, x2, x3⟩ := hcp.2.1
    rw [x3 rfl] at x2
    have kt := (ck t h2).1
    have kl := vk_lt (hK.2.1 t h2).1
    have t402 : t < 402 := by omega
    have is1 : fX12_is 0 1 (mkM F A B) = some (b2 (decide (K t = 16)), mkM F A B) := m_is (B := B) hK h2 hmp mtk (k := 16) rfl
    by_cases e16 : K t = 16
    · rw [decide_eq_true e16] at is1
      rw [e16] at kt
      have kt' : Ac 4 t = (16 : Int32) := kt
      obtain ⟨m1, m2⟩ := hq
      obtain ⟨Fc1, Ac1, tw, a1, a2, a3, a4, a5, a6, a7⟩ := c_piled (NM := NM) (w := w) (P := P) (g := g) (q := q) hd hr hK h2 hcp ck hcn hwc h0 hnc hgc m1 m2 (fun w0 => (hI w0).2.1)
      obtain ⟨F1, A1, hs1, b1, b2, b3, b4, b5, b6, b7, b8⟩ := m_piled (NM := NM) (w := w) (s := s) (hs := hs) (g := g) (tw := tw) (n := n) (fuel := fm) hK hsd h2 hmp mtk hmn hwm hlt hmono hpl h19 h20 hnb hgm (by omega) e16 (fun w0 => by
        obtain ⟨e1, ⟨_, gp⟩, e2, _, e3, e4⟩ := hI w0
        refine ⟨e3, fun z4 b hb => ?_⟩
        have ib := fndN_lt _ _ _ hb
        rw [e4 b (by omega), ← e2]
        rw [← e1] at hb
        exact (a7 z4).1 w0 b hb)
      obtain ⟨_, _, _, ⟨p1, p2⟩, p3, p4, p5, p6, p7⟩ := pi_ok hK h2
      have run1 : fX3_tellPile_b19 (fc + 1) 37 (nI i) (mkC Fc Ac Bc r) = fX3_tellPile_b19 fc 37 (nI (i + 1)) (mkC Fc1 Ac1 Bc r) := by
        rw [fX3_tellPile_b19]
        simp -implicitDefEqProofs (disch := first | assumption | omega | decide | exact And.intro (by omega) (by omega)) only [cck_0, cr0_0, cr0_1, cr0_2, cr0_3, cg0_4, cp0_4, cg0_5, cp0_5, cck_1, cg1_0, cp1_0, cr1_1, cr1_2, cr1_3, cg1_4, cp1_4, cg1_5, cp1_5, cr1_6, cr1_7, cck_2, cr2_0, cr2_1, cr2_2, cck_3, cr3_0, cr3_1, cg3_2, cp3_2, cg3_3, cp3_3, cg3_4, cp3_4, cg3_5, cp3_5, cg3_6, cp3_6, cg3_7, cp3_7, cg3_8, cp3_8, cck_4, cg4_0, cp4_0, cg4_1, cp4_1, cr4_2, cr4_3, cr4_4, cr4_5, cck_5, cg5_0, cp5_0, cr5_1, cr5_2, cr5_3, cck_6, cg6_0, cp6_0, cg6_1, cp6_1, cck_7, cg7_0, cp7_0, cg7_1, cp7_1, cr7_2, cr7_3, cr7_4, cr7_5, cr7_6, cr7_7, cr7_8, cck_8, cr8_0, cr8_1, cck_9, cr9_0, cr9_1, cr9_2, cr9_3, cg9_4, cp9_4, cck_10, cg10_0, cp10_0, cr10_1, cr10_2, cr10_3, cr10_4, cg10_5, cp10_5, cr10_6, cr10_7, cr10_8, cg10_9, cp10_9, cg10_10, cp10_10, cr10_11, cr10_12, cr10_13, cr10_14, cck_11, cr11_0, cg11_1, cp11_1, cr11_2, cr11_3, cr11_4, cr11_5, cr11_6, cr11_7, cr11_8, cr11_9, cr11_10, cr11_11, cr11_12, cr11_13, cr11_14, ca_30, cs_30, ca_31, cs_31, ca_32, cs_32, ca_33, cs_33, ca_34, cs_34, ca_35, cs_35, ca_36, cs_36, ca_37, cs_37, ca_38, cs_38, ca_39, cs_39, ca_40, cs_40, ca_41, cs_41, ca_42, cs_42, car_20, car_21, car_22, cq11_3, cq11_4, cq3_1, cq0_0, cq0_1, if_true, if_false, Option.bind_some, cb_e, lt_e, nI_1, hs_nar2, nh4, upd_at, vau_at, ca_42_0, cs_42_0, if_neg i4, c33, x2, kt', a1]
      rw [run1, b1]
      have ck1 : CTk Ac1 Bc M K V PL := by
        unfold CTk at *
        rw [a5 4 (by omega) (by omega) (by omega), a5 5 (by omega) (by omega) (by omega)]
        exact ck
      have mk1 : MTk A1 M K V PL := by
        unfold MTk at *
        rw [b5 3 (by decide), b5 4 (by decide), b5 5 (by decide)]
        exact mtk
      by_cases z4 : (pi4 K t).1 = 0
      · have tlt : t + 2 < (pi4 K t).2 := by
          have := (p5 (p4 (p3 z4)).1).2
          have := p7 z4
          omega
        have gm1 : M < (pi4 K t).2 + m := by omega
        have gm2 : n + 1 ≤ (pi4 K t).2 := by omega
        have gm3 : i + 1 ≤ (pi4 K t).2 := by omega
        have gm4 : m < fc := by omega
        have gm5 : m < fm := by omega
        have gm6 : ¬ d = 37 := by omega
        have gm7 : ¬ d = d + 11 := by omega
        obtain ⟨a8, a9, a10⟩ := a7 z4
        obtain ⟨b9, b10⟩ := b8 z4
        rw [z4] at a2 b2
        have eun : slP K V PL w (decide (fndN g (NM t) nc 0 = none)) tw t = slP K V PL w (decide (fndN g (NM t) nb 0 = none)) tw t := by
          by_cases w0 : w.1 = 0
          · rw [(hI w0).1]
          · rw [slP_n0 w0, slP_n0 w0]
        rw [eun] at a9 a10
        generalize hw3 : slP K V PL w (decide (fndN g (NM t) nb 0 = none)) tw t = w3 at *
        have w3lt : ¬ w3.1 = 0 → w3.2 < PL (pi4 K t).2 := by
          rw [← hw3]
          unfold slP
          exact slp_lt (p0 := PL (pi4 K t).2) (slp_lt (p0 := PL (pi4 K t).2) (slp_lt (p0 := PL t) hlt (Nat.le_of_lt (hmono _ _ (by omega) p1)) (hmono _ _ (by omega) p1)) (Nat.le_refl _) (hmono _ _ (by omega) p1)) (Nat.le_refl _) (hmono _ _ (p7 z4) p1)
        obtain ⟨q', q1, q2⟩ := a6
        have hnext : ∃ s' P', w3.1 = 0 → nc = nb ∧ PlI d sd nc Fc1 Ac1 A1 (n + 1) s' hs1 P' := by
          by_cases w30 : w3.1 = 0
          · obtain ⟨b, r1, r2, r3⟩ := a10 w30
            obtain ⟨b', r4, ⟨r5, r5'⟩, r6, r7⟩ := b10 w30
            have w0 : w.1 = 0 := by
              rw [← hw3] at w30
              exact (slP_0 w30).1
            obtain ⟨e1, ⟨_, gp⟩, e2, e3, e4, e5⟩ := hI w0
            have eb : b' = b := by
              rw [e1, r4] at r1
              injection r1
            subst eb
            have n6 : n < 6 := by
              have := r3.1
              have : P.1 + 1 ≤ 6 := this
              omega
            obtain ⟨g1, g2, g3⟩ := r7 n6
            refine ⟨s + 2 ^ b', apPut P b' (piV K V t) (piG K t), fun _ => ⟨e1, ⟨r2, r3⟩, by show P.1 + 1 = n + 1; omega, fun i hi => ?_, ⟨r5, r5'⟩, fun c hc => ?_⟩⟩
            · show A1 17 (20 * sd + i) = nI (if i = P.1 then b' else P.2.1 i) ∧ A1 17 (20 * sd + 6 + i) = iI (if i = P.1 then piV K V t else P.2.2.1 i) ∧ A1 17 (20 * sd + 12 + i) = if i = P.1 then piG K t else P.2.2.2 i
              by_cases ei : i = n
              · rw [if_pos (by omega), if_pos (by omega), if_pos (by omega), ei]
                exact ⟨g1, g2, g3⟩
              · rw [if_neg (by omega), if_neg (by omega), if_neg (by omega)]
                obtain ⟨k1, k2, k3⟩ := b7 i (by omega) (by omega)
                rw [k1, k2, k3]
                exact e3 i (by omega)
            · rw [r6 c hc, e5 c hc]
              show (c = b' ∨ ∃ i, i < n ∧ P.2.1 i = c) ↔ ∃ i, i < n + 1 ∧ (if i = P.1 then b' else P.2.1 i) = c
              refine ⟨fun z => ?_, fun ⟨i, hi, z⟩ => ?_⟩
              · rcases z with z | ⟨i, hi, z⟩
                · exact ⟨n, by omega, by rw [if_pos e2.symm]; exact z.symm⟩
                · exact ⟨i, by omega, by rw [if_neg (by omega)]; exact z⟩
              · by_cases ei : i = P.1
                · rw [if_pos ei] at z
                  exact Or.inl z.symm
                · rw [if_neg ei] at z
                  exact Or.inr ⟨i, by omega, z⟩
          · exact ⟨s, P, fun z => absurd z w30⟩
        obtain ⟨s', P', hI'⟩ := hnext
        obtain ⟨Fc2, Ac2, F2, A2, fa, t', k1, k2, k3, k4, k5, k6, k7, k8, k9, k10, k11⟩ := pile_go hd hr hsd hK hcn hmn hmono hpl hnc hnb hgc hgm m (pi4 K t).2 (n + 1) (i + 1) s' fc fm w3 hs1 P' q' Fc1 Ac1 F1 A1 gm1 p1 gm2 gm3 gm4 gm5 a2 ck1 b2 mk1 a9 b9 w3lt (by rw [a3 d gm6 gm7]; exact h0) (by rw [b3 19 (by decide)]; exact h19) (by rw [b3 20 (by decide)]; exact h20) ⟨q1, q2⟩ hI'
        refine ⟨Fc2, Ac2, F2, A2, fa, t', k1, k2, k3, fun c z1 z2 => by rw [k4 c z1 z2, a3 c z1 z2], fun k z => by rw [k5 k z, a4 k z], fun c z1 z2 z3 => by rw [k6 c z1 z2 z3, a5 c z1 z2 z3], fun k z => by rw [k7 k z, b3 k z], by rw [k8, b4], fun a z => by rw [k9 a z, b5 a z], fun j z => by rw [k10 j z, b6 j (by omega)], fun fz => ?_⟩
        obtain ⟨⟨o1, o2⟩, o3, w', o4, o5⟩ := k11 fz
        refine ⟨⟨by omega, o2⟩, o3, w', o4, fun z => ⟨?_, (o5 z).2⟩⟩
        have := (o5 z).1
        rw [← hw3] at this
        exact (slP_0 this).1
      · have hz : ¬ Fc1 37 3 = 0 := by rw [a2.1]; exact nI_ne0 (by omega) (by omega)
        have hz' : ¬ F1 13 = 0 := by rw [b2.1]; exact nI_ne0 (by omega) (by omega)
        obtain ⟨fc', rfl⟩ : ∃ q, fc = q + 1 := ⟨fc - 1, by omega⟩
        obtain ⟨fm', rfl⟩ : ∃ q, fm = q + 1 := ⟨fm - 1, by omega⟩
        have e60 : fX3_tellPile_b19 (fc' + 1) 37 (nI (i + 1)) (mkC Fc1 Ac1 Bc r) = fX3_tellPile_b60 37 (mkC Fc1 Ac1 Bc r) := by
          rw [fX3_tellPile_b19]
          by_cases c4 : (400 : Int32) < nI (i + 1)
          · simp -implicitDefEqProofs (disch := first | assumption | omega | decide | exact And.intro (by omega) (by omega)) only [cck_0, cr0_0, cr0_1, cr0_2, cr0_3, cg0_4, cp0_4, cg0_5, cp0_5, cck_1, cg1_0, cp1_0, cr1_1, cr1_2, cr1_3, cg1_4, cp1_4, cg1_5, cp1_5, cr1_6, cr1_7, cck_2, cr2_0, cr2_1, cr2_2, cck_3, cr3_0, cr3_1, cg3_2, cp3_2, cg3_3, cp3_3, cg3_4, cp3_4, cg3_5, cp3_5, cg3_6, cp3_6, cg3_7, cp3_7, cg3_8, cp3_8, cck_4, cg4_0, cp4_0, cg4_1, cp4_1, cr4_2, cr4_3, cr4_4, cr4_5, cck_5, cg5_0, cp5_0, cr5_1, cr5_2, cr5_3, cck_6, cg6_0, cp6_0, cg6_1, cp6_1, cck_7, cg7_0, cp7_0, cg7_1, cp7_1, cr7_2, cr7_3, cr7_4, cr7_5, cr7_6, cr7_7, cr7_8, cck_8, cr8_0, cr8_1, cck_9, cr9_0, cr9_1, cr9_2, cr9_3, cg9_4, cp9_4, cck_10, cg10_0, cp10_0, cr10_1, cr10_2, cr10_3, cr10_4, cg10_5, cp10_5, cr10_6, cr10_7, cr10_8, cg10_9, cp10_9, cg10_10, cp10_10, cr10_11, cr10_12, cr10_13, cr10_14, cck_11, cr11_0, cg11_1, cp11_1, cr11_2, cr11_3, cr11_4, cr11_5, cr11_6, cr11_7, cr11_8, cr11_9, cr11_10, cr11_11, cr11_12, cr11_13, cr11_14, ca_30, cs_30, ca_31, cs_31, ca_32, cs_32, ca_33, cs_33, ca_34, cs_34, ca_35, cs_35, ca_36, cs_36, ca_37, cs_37, ca_38, cs_38, ca_39, cs_39, ca_40, cs_40, ca_41, cs_41, ca_42, cs_42, car_20, car_21, car_22, cq11_3, cq11_4, cq3_1, cq0_0, cq0_1, if_true, if_false, Option.bind_some, cb_e, lt_e, nI_1, hs_nar2, nh4, upd_at, vau_at, ca_42_0, cs_42_0, if_pos c4]
          · simp -implicitDefEqProofs (disch := first | assumption | omega | decide | exact And.intro (by omega) (by omega)) only [cck_0, cr0_0, cr0_1, cr0_2, cr0_3, cg0_4, cp0_4, cg0_5, cp0_5, cck_1, cg1_0, cp1_0, cr1_1, cr1_2, cr1_3, cg1_4, cp1_4, cg1_5, cp1_5, cr1_6, cr1_7, cck_2, cr2_0, cr2_1, cr2_2, cck_3, cr3_0, cr3_1, cg3_2, cp3_2, cg3_3, cp3_3, cg3_4, cp3_4, cg3_5, cp3_5, cg3_6, cp3_6, cg3_7, cp3_7, cg3_8, cp3_8, cck_4, cg4_0, cp4_0, cg4_1, cp4_1, cr4_2, cr4_3, cr4_4, cr4_5, cck_5, cg5_0, cp5_0, cr5_1, cr5_2, cr5_3, cck_6, cg6_0, cp6_0, cg6_1, cp6_1, cck_7, cg7_0, cp7_0, cg7_1, cp7_1, cr7_2, cr7_3, cr7_4, cr7_5, cr7_6, cr7_7, cr7_8, cck_8, cr8_0, cr8_1, cck_9, cr9_0, cr9_1, cr9_2, cr9_3, cg9_4, cp9_4, cck_10, cg10_0, cp10_0, cr10_1, cr10_2, cr10_3, cr10_4, cg10_5, cp10_5, cr10_6, cr10_7, cr10_8, cg10_9, cp10_9, cg10_10, cp10_10, cr10_11, cr10_12, cr10_13, cr10_14, cck_11, cr11_0, cg11_1, cp11_1, cr11_2, cr11_3, cr11_4, cr11_5, cr11_6, cr11_7, cr11_8, cr11_9, cr11_10, cr11_11, cr11_12, cr11_13, cr11_14, ca_30, cs_30, ca_31, cs_31, ca_32, cs_32, ca_33, cs_33, ca_34, cs_34, ca_35, cs_35, ca_36, cs_36, ca_37, cs_37, ca_38, cs_38, ca_39, cs_39, ca_40, cs_40, ca_41, cs_41, ca_42, cs_42, car_20, car_21, car_22, cq11_3, cq11_4, cq3_1, cq0_0, cq0_1, if_true, if_false, Option.bind_some, cb_e, lt_e, nI_1, hs_nar2, nh4, upd_at, vau_at, ca_42_0, cs_42_0, if_neg c4, if_neg hz]
        have e228 : fX12_tellPile_b4 (fm' + 1) 0 (nI (n + 1)) hs1 (mkM F1 A1 B) = fX12_tellPile_b228 0 (nI (n + 1)) (mkM F1 A1 B) := by
          rw [fX12_tellPile_b4]
          simp -implicitDefEqProofs (disch := first | assumption | omega | decide | exact And.intro (by omega) (by omega)) only [mck, mg_0, mp_0, mr_1, mg_2, mp_2, mr_3, mg_4, mp_4, mr_5, mr_6, mr_7, mr_8, mr_9, mg_10, mp_10, mg_11, mp_11, mg_12, mp_12, mg_13, mp_13, mg_14, mp_14, mg_15, mp_15, mg_16, mp_16, mg_17, mp_17, mg_18, mp_18, mg_19, mp_19, mg_20, mp_20, mr_21, mr_22, mr_23, mr_24, mr_25, mr_26, mr_27, mr_28, mr_29, mr_30, mr_31, mr_32, mg_33, mp_33, mr_34, mr_35, mr_36, mr_37, mr_38, mg_39, mp_39, mr_40, mr_41, mr_42, mg_43, mp_43, mr_44, mr_45, mg_46, mp_46, mr_47, mr_48, mg_49, mp_49, mg_50, mp_50, mg_51, mp_51, mr_52, mr_53, mr_54, mg_55, mp_55, mr_56, mr_57, mg_58, mp_58, mg_59, mp_59, mg_60, mp_60, mr_61, mg_62, mp_62, mr_63, mr_64, mr_65, mr_66, mr_67, mr_68, ma_1, ms_1, ma_2, ms_2, ma_3, ms_3, ma_4, ms_4, ma_5, ms_5, ma_6, ms_6, ma_7, ms_7, ma_8, ms_8, ma_9, ms_9, ma_10, ms_10, ma_11, ms_11, ma_12, ms_12, ma_13, ms_13, ma_14, ms_14, ma_15, ms_15, ma_16, ms_16, ma_17, ms_17, ma_18, ms_18, ma_19, ms_19, ma_20, ms_20, ma_21, ms_21, ma_22, ms_22, ma_23, ms_23, ma_24, ms_24, ma_25, ms_25, ma_26, ms_26, ma_27, ms_27, ma_28, ms_28, ma_29, ms_29, ma_30, ms_30, ma_31, ms_31, ma_32, ms_32, ma_33, ms_33, ma_34, ms_34, ma_35, ms_35, ma_36, ms_36, ma_37, ms_37, ma_38, ms_38, ma_39, ms_39, ma_40, ms_40, ma_41, ms_41, ma_42, ms_42, ma_43, ms_43, if_true, if_false, Option.bind_some, cb_e, lt_e, nI_1, hs_nar2, nh4, upd_at, vau_at, ma_30_18, ms_30_18, ma_31_18, ms_31_18, ma_28_0, ms_28_0, ma_28_1, ms_28_1, ma_28_2, ms_28_2, ma_28_3, ms_28_3, ma_28_4, ms_28_4, ma_42_0, ms_42_0, ma_42_1, ms_42_1, ma_42_2, ms_42_2, ma_36_0, ms_36_0, if_neg hz']
        obtain ⟨Fc2, F2, A2, k1, k2, k3, k4, k5, k6, k7, k8⟩ := pile_end (Bc := Bc) (r := r) (B := B) (n := n + 1) hK hsd p1 a2 ck1 b2 mk1 (by rw [b3 19 (by decide)]; exact h19) (by omega)
        rw [stp_F z4] at k3 k4
        exact ⟨Fc2, Ac1, F2, A2, _, _, e60.trans k1, e228.trans k2, ⟨k3, k4⟩, fun c z1 z2 => by rw [k5 c z1, a3 c z1 z2], fun k z => by rw [k6 k (by omega) (by omega) (by omega), a4 k z], a5, fun k z => by rw [k7 k (by omega) (by omega) (by omega), b3 k z], by rw [k7 12 (by decide) (by decide) (by decide), b4], fun a z => by rw [k8, vau_ne z, b5 a z], fun j z => by rw [k8, vau_at, upd_ne (by omega), b6 j (by omega)], fun z => absurd z z4⟩
    · rw [decide_eq_false e16] at is1
      have kt' : ¬ Ac 4 t = (16 : Int32) := by
        rw [kt]
        intro z
        exact e16 ((nI_eq (b := 16) (by omega) (by decide)).1 z)
      have e60 : fX3_tellPile_b19 (fc + 1) 37 (nI i) (mkC Fc Ac Bc r) = fX3_tellPile_b60 37 (mkC Fc Ac Bc r) := by
        rw [fX3_tellPile_b19]
        simp -implicitDefEqProofs (disch := first | assumption | omega | decide | exact And.intro (by omega) (by omega)) only [cck_0, cr0_0, cr0_1, cr0_2, cr0_3, cg0_4, cp0_4, cg0_5, cp0_5, cck_1, cg1_0, cp1_0, cr1_1, cr1_2, cr1_3, cg1_4, cp1_4, cg1_5, cp1_5, cr1_6, cr1_7, cck_2, cr2_0, cr2_1, cr2_2, cck_3, cr3_0, cr3_1, cg3_2, cp3_2, cg3_3, cp3_3, cg3_4, cp3_4, cg3_5, cp3_5, cg3_6, cp3_6, cg3_7, cp3_7, cg3_8, cp3_8, cck_4, cg4_0, cp4_0, cg4_1, cp4_1, cr4_2, cr4_3, cr4_4, cr4_5, cck_5, cg5_0, cp5_0, cr5_1, cr5_2, cr5_3, cck_6, cg6_0, cp6_0, cg6_1, cp6_1, cck_7, cg7_0, cp7_0, cg7_1, cp7_1, cr7_2, cr7_3, cr7_4, cr7_5, cr7_6, cr7_7, cr7_8, cck_8, cr8_0, cr8_1, cck_9, cr9_0, cr9_1, cr9_2, cr9_3, cg9_4, cp9_4, cck_10, cg10_0, cp10_0, cr10_1, cr10_2, cr10_3, cr10_4, cg10_5, cp10_5, cr10_6, cr10_7, cr10_8, cg10_9, cp10_9, cg10_10, cp10_10, cr10_11, cr10_12, cr10_13, cr10_14, cck_11, cr11_0, cg11_1, cp11_1, cr11_2, cr11_3, cr11_4, cr11_5, cr11_6, cr11_7, cr11_8, cr11_9, cr11_10, cr11_11, cr11_12, cr11_13, cr11_14, ca_30, cs_30, ca_31, cs_31, ca_32, cs_32, ca_33, cs_33, ca_34, cs_34, ca_35, cs_35, ca_36, cs_36, ca_37, cs_37, ca_38, cs_38, ca_39, cs_39, ca_40, cs_40, ca_41, cs_41, ca_42, cs_42, car_20, car_21, car_22, cq11_3, cq11_4, cq3_1, cq0_0, cq0_1, if_true, if_false, Option.bind_some, cb_e, lt_e, nI_1, hs_nar2, nh4, upd_at, vau_at, ca_42_0, cs_42_0, if_neg i4, c33, x2, if_neg kt']
      have e228 : fX12_tellPile_b4 (fm + 1) 0 (nI n) hs (mkM F A B) = fX12_tellPile_b228 0 (nI n) (mkM F A B) := by
        rw [fX12_tellPile_b4]
        simp -implicitDefEqProofs (disch := first | assumption | omega | decide | exact And.intro (by omega) (by omega)) only [mck, mg_0, mp_0, mr_1, mg_2, mp_2, mr_3, mg_4, mp_4, mr_5, mr_6, mr_7, mr_8, mr_9, mg_10, mp_10, mg_11, mp_11, mg_12, mp_12, mg_13, mp_13, mg_14, mp_14, mg_15, mp_15, mg_16, mp_16, mg_17, mp_17, mg_18, mp_18, mg_19, mp_19, mg_20, mp_20, mr_21, mr_22, mr_23, mr_24, mr_25, mr_26, mr_27, mr_28, mr_29, mr_30, mr_31, mr_32, mg_33, mp_33, mr_34, mr_35, mr_36, mr_37, mr_38, mg_39, mp_39, mr_40, mr_41, mr_42, mg_43, mp_43, mr_44, mr_45, mg_46, mp_46, mr_47, mr_48, mg_49, mp_49, mg_50, mp_50, mg_51, mp_51, mr_52, mr_53, mr_54, mg_55, mp_55, mr_56, mr_57, mg_58, mp_58, mg_59, mp_59, mg_60, mp_60, mr_61, mg_62, mp_62, mr_63, mr_64, mr_65, mr_66, mr_67, mr_68, ma_1, ms_1, ma_2, ms_2, ma_3, ms_3, ma_4, ms_4, ma_5, ms_5, ma_6, ms_6, ma_7, ms_7, ma_8, ms_8, ma_9, ms_9, ma_10, ms_10, ma_11, ms_11, ma_12, ms_12, ma_13, ms_13, ma_14, ms_14, ma_15, ms_15, ma_16, ms_16, ma_17, ms_17, ma_18, ms_18, ma_19, ms_19, ma_20, ms_20, ma_21, ms_21, ma_22, ms_22, ma_23, ms_23, ma_24, ms_24, ma_25, ms_25, ma_26, ms_26, ma_27, ms_27, ma_28, ms_28, ma_29, ms_29, ma_30, ms_30, ma_31, ms_31, ma_32, ms_32, ma_33, ms_33, ma_34, ms_34, ma_35, ms_35, ma_36, ms_36, ma_37, ms_37, ma_38, ms_38, ma_39, ms_39, ma_40, ms_40, ma_41, ms_41, ma_42, ms_42, ma_43, ms_43, if_true, if_false, Option.bind_some, cb_e, lt_e, nI_1, hs_nar2, nh4, upd_at, vau_at, ma_30_18, ms_30_18, ma_31_18, ms_31_18, ma_28_0, ms_28_0, ma_28_1, ms_28_1, ma_28_2, ms_28_2, ma_28_3, ms_28_3, ma_28_4, ms_28_4, ma_42_0, ms_42_0, ma_42_1, ms_42_1, ma_42_2, ms_42_2, ma_36_0, ms_36_0, f13, is1, if_pos b2f]
      obtain ⟨Fc2, F2, A2, k1, k2, k3, k4, k5, k6, k7, k8⟩ := pile_end (Bc := Bc) (r := r) (B := B) (n := n) (s := (0, t)) hK hsd h2 hcp ck hmp mtk h19 (by omega)
      obtain ⟨⟨l1, l2, l3⟩, l4⟩ := stp_ok hK (k := 59) (s := (0, t)) (by decide) h2 (Nat.zero_le _)
      refine ⟨Fc2, Ac, F2, A2, _, _, e60.trans k1, e228.trans k2, ⟨k3, k4⟩, fun c z1 _ => k5 c z1, fun k z => k6 k (by omega) (by omega) (by omega), fun _ _ _ _ => rfl, fun k z => k7 k (by omega) (by omega) (by omega), k7 12 (by decide) (by decide) (by decide), fun a z => by rw [k8, vau_ne z], fun j z => by rw [k8, vau_at, upd_ne (by omega)], fun z => ?_⟩
      obtain ⟨_, z2, _, _⟩ := l4 z
      have z2' : (stp K 59 (0, t)).2 = t + 1 := z2
      refine ⟨⟨by omega, l2⟩, ⟨q, hq.1, by rw [k5 (d + 11) (by omega)]; exact hq.2⟩, w, ⟨hwc.eq k6, hwm.eq k7, fun z3 => ?_⟩, fun w0 => ⟨w0, P, ?_⟩⟩
      · have := hlt z3
        have := hmono t (stp K 59 (0, t)).2 (by omega) l2
        omega
      · obtain ⟨e1, ⟨e6, gp⟩, e2, e3, e4, e5⟩ := hI w0
        have p6 := gp.1
        refine ⟨e6.eq (k5 (d + 11) (by omega)) rfl rfl rfl, ⟨?_, fun i hi => ?_⟩, gp⟩
        · rw [k8, vau_at, upd_at, show min n 6 = P.1 by omega]
        · rw [k8, vau_at, upd_ne (by omega), upd_ne (by omega), upd_ne (by omega)]
          exact e3 i (by omega)
end P98
