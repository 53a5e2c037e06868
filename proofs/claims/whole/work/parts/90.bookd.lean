/-! ===== a book is told: the class, from its first token on ===== -/
section B90
variable {d M : Nat} {K V : Nat → Nat} {NM : Nat → List Nat} {PL : Nat → Nat} {r : Nat → Nat}
theorem c_book {Fc Ac : Nat → Nat → Int32} {Bc : Nat → Nat → Int64} {w : Nat × Nat} {t nb nc : Nat} {g : Nat → List Nat} (hd : d = 7 ∨ d = 22) (hr : r 2 = d) (hK : TkK M K V) (ht : t ≤ M) (hcp : CPo Fc PL 0 t) (ck : CTk Ac Bc M K V PL) (hnm : ∀ j, j ≤ M → K j = 16 → Bc 6 j = jN (cN 32 (NM j)) ∧ Nam (NM j)) (hw : SlC Fc w) (h7 : Fc 37 7 = nI nb) (hnb : nb < 6) (h0 : Fc d 0 = nI nc) (hnc : nc ≤ 6) (hg : ∀ i, i < nc → Bc (d + 1) i = jN (cN 32 (g i)) ∧ Nam (g i)) : ∃ F6, CPo F6 PL (stp K 59 (stp K 17 (stp K 17 (stp K 16 (stp K 0 (0, t)))))).1 (stp K 59 (stp K 17 (stp K 17 (stp K 16 (stp K 0 (0, t)))))).2 ∧ (∀ c, ¬ c = 37 → F6 c = Fc c) ∧ (F6 37 7 = nI (nb + 1) ∧ F6 37 8 = Fc 37 8) ∧ (¬ (stp K 59 (stp K 17 (stp K 17 (stp K 16 (stp K 0 (0, t)))))).1 = 0 → fX3_tellBook 37 (mkC Fc Ac Bc r) = some ((), mkC F6 Ac Bc r)) ∧ ((stp K 59 (stp K 17 (stp K 17 (stp K 16 (stp K 0 (0, t)))))).1 = 0 → SlC F6 (slp w (decide (¬ fndN g (NM (t + 1)) nc 0 = none)) 3 (PL (t + 1))) ∧ fX3_tellBook 37 (mkC Fc Ac Bc r) = fX3_tellBook_b93 37 (nI (t + 1)) (nI (t + 2)) (nI (t + 3)) (mkC F6 Ac Bc r)) := by
  have hM := hK.1
  have n6 : ¬ nI nb = (6 : Int32) := fun q => by
    have := (nI_eq (b := 6) (by omega) (by decide)).1 q
    omega
  have d37 : ¬ d = 37 := by omega
  generalize hF0 : va_up Fc 37 (upd (Fc 37) 7 (nI (nb + 1))) = F0
  have e0 : ∀ c, ¬ c = 37 → F0 c = Fc c := fun c hc => by rw [← hF0, vau_ne hc]
  have e37 : ∀ k, ¬ k = 7 → F0 37 k = Fc 37 k := fun k hk => by rw [← hF0, vau_at, upd_ne hk]
  have e7 : F0 37 7 = nI (nb + 1) := by rw [← hF0, vau_at, upd_at]
  have hcp0 : CPo F0 PL 0 t := by
    unfold CPo at *
    rw [e37 2 (by decide), e37 3 (by decide), e37 4 (by decide)]
    exact hcp
  obtain ⟨⟨l1, l2, l3⟩, l4⟩ := stp_ok hK (k := 0) (s := (0, t)) (by decide) ht (Nat.zero_le _)
  obtain ⟨⟨l5, l6, l7⟩, l8⟩ := stp_ok hK (k := 16) (s := stp K 0 (0, t)) (by decide) l2 l3
  obtain ⟨⟨l9, l10, l11⟩, l12⟩ := stp_ok hK (k := 17) (s := stp K 16 (stp K 0 (0, t))) (by decide) l6 l7
  obtain ⟨⟨l13, l14, l15⟩, l16⟩ := stp_ok hK (k := 17) (s := stp K 17 (stp K 16 (stp K 0 (0, t)))) (by decide) l10 l11
  obtain ⟨⟨l17, l18, l19⟩, l20⟩ := stp_ok hK (k := 59) (s := stp K 17 (stp K 17 (stp K 16 (stp K 0 (0, t))))) (by decide) l14 l15
  obtain ⟨F1, x1, a1, a2, a3, a4, a5⟩ := c_stp (Bc := Bc) (r := r) hK (k := 0) (s := (0, t)) ht hcp0 ck (by decide) (by decide)
  obtain ⟨F2, x2, b1, b2, b3, b4, b5⟩ := c_stp (Bc := Bc) (r := r) hK (k := 16) l2 a2 ck (by decide) (by decide)
  obtain ⟨F3, x3, c1, c2, c3, c4, c5⟩ := c_stp (Bc := Bc) (r := r) hK (k := 17) l6 b2 ck (by decide) (by decide)
  obtain ⟨F4, x4, f1, f2, f3, f4, f5⟩ := c_stp (Bc := Bc) (r := r) hK (k := 17) l10 c2 ck (by decide) (by decide)
  obtain ⟨F5, x5, g1, g2, g3, g4, g5⟩ := c_stp (Bc := Bc) (r := r) hK (k := 59) l14 f2 ck (by decide) (by decide)
  have a1' : fX3_take 37 0 (mkC F0 Ac Bc r) = some (x1, mkC F1 Ac Bc r) := a1
  have b1' : fX3_take 37 16 (mkC F1 Ac Bc r) = some (x2, mkC F2 Ac Bc r) := b1
  have c1' : fX3_take 37 17 (mkC F2 Ac Bc r) = some (x3, mkC F3 Ac Bc r) := c1
  have f1' : fX3_take 37 17 (mkC F3 Ac Bc r) = some (x4, mkC F4 Ac Bc r) := f1
  have g1' : fX3_take 37 59 (mkC F4 Ac Bc r) = some (x5, mkC F5 Ac Bc r) := g1
  have fo : ∀ c, ¬ c = 37 → F5 c = Fc c := fun c hc => by rw [g3 c hc, f3 c hc, c3 c hc, b3 c hc, a3 c hc, e0 c hc]
  have fk : ∀ k, ¬ k = 2 → ¬ k = 3 → ¬ k = 4 → F5 37 k = F0 37 k := fun k q1 q2 q3 => by rw [g4 k q1 q2 q3, f4 k q1 q2 q3, c4 k q1 q2 q3, b4 k q1 q2 q3, a4 k q1 q2 q3]
  have k7 : F5 37 7 = nI (nb + 1) := by rw [fk 7 (by decide) (by decide) (by decide)]; exact e7
  have k8 : F5 37 8 = Fc 37 8 := by rw [fk 8 (by decide) (by decide) (by decide), e37 8 (by decide)]
  have sc5 : SlC F5 w := SlC.eq (F := F0) ⟨hw.1, by rw [e37 5 (by decide)]; exact hw.2.1, fun q => by rw [e37 6 (by decide)]; exact hw.2.2.1 q, fun q => by rw [e37 6 (by decide)]; exact hw.2.2.2 q⟩ fk
  have f53 := g2.1
  by_cases cz : (stp K 59 (stp K 17 (stp K 17 (stp K 16 (stp K 0 (0, t)))))).1 = 0
  · obtain ⟨z1, z2, z3, z4⟩ := l20 cz
    obtain ⟨z5, z6, z7, z8⟩ := l16 z1
    obtain ⟨z9, z10, z11, z12⟩ := l12 z5
    obtain ⟨z13, z14, z15, z16⟩ := l8 z9
    obtain ⟨z17, z18, z19, z20⟩ := l4 z13
    have t1 : (stp K 0 (0, t)).2 = t + 1 := z18
    have t2 : (stp K 16 (stp K 0 (0, t))).2 = t + 2 := by rw [z14, t1]
    have t3 : (stp K 17 (stp K 16 (stp K 0 (0, t)))).2 = t + 3 := by rw [z10, t2]
    have y2 : x2 = nI (t + 1) := by rw [b5 z13, t1]
    have y3 : x3 = nI (t + 2) := by rw [c5 z9, t2]
    have y4 : x4 = nI (t + 3) := by rw [f5 z5, t3]
    subst y2 y3 y4
    rw [t1] at l2 z15
    have f53' : F5 37 3 = 0 := by rw [f53, cz]; rfl
    have j402 : t + 1 < 402 := by omega
    obtain ⟨v1, v2⟩ := hnm _ l2 z15
    have hr2 : gR (mkC F5 Ac Bc r) 3 37 1 = some d := by rw [cr3_1 rfl, hr]
    have nm := c_named (A := Ac) (r := r) (F := F5) hd hnc (by rw [fo d d37]; exact h0) hg v2
    by_cases cf : fndN g (NM (t + 1)) nc 0 = none
    · rw [cf] at nm
      have nm' : fX10_bookNamed d (jN (cN 32 (NM (t + 1)))) (mkC F5 Ac Bc r) = some (-1, mkC F5 Ac Bc r) := nm
      refine ⟨F5, g2, fo, ⟨k7, k8⟩, fun q => absurd cz q, fun _ => ⟨by rw [decide_eq_false (fun q => q cf), slp_f]; exact sc5, ?_⟩⟩
      unfold fX3_tellBook
      simp -implicitDefEqProofs (disch := first | assumption | omega | decide | exact And.intro (by omega) (by omega)) only [cck_0, cr0_0, cr0_1, cr0_2, cr0_3, cg0_4, cp0_4, cg0_5, cp0_5, cck_1, cg1_0, cp1_0, cr1_1, cr1_2, cr1_3, cg1_4, cp1_4, cg1_5, cp1_5, cr1_6, cr1_7, cck_2, cr2_0, cr2_1, cr2_2, cck_3, cr3_0, cr3_1, cg3_2, cp3_2, cg3_3, cp3_3, cg3_4, cp3_4, cg3_5, cp3_5, cg3_6, cp3_6, cg3_7, cp3_7, cg3_8, cp3_8, cck_4, cg4_0, cp4_0, cg4_1, cp4_1, cr4_2, cr4_3, cr4_4, cr4_5, cck_5, cg5_0, cp5_0, cr5_1, cr5_2, cr5_3, cck_6, cg6_0, cp6_0, cg6_1, cp6_1, cck_7, cg7_0, cp7_0, cg7_1, cp7_1, cr7_2, cr7_3, cr7_4, cr7_5, cr7_6, cr7_7, cr7_8, cck_8, cr8_0, cr8_1, cck_9, cr9_0, cr9_1, cr9_2, cr9_3, cg9_4, cp9_4, cck_10, cg10_0, cp10_0, cr10_1, cr10_2, cr10_3, cr10_4, cg10_5, cp10_5, cr10_6, cr10_7, cr10_8, cg10_9, cp10_9, cg10_10, cp10_10, cr10_11, cr10_12, cr10_13, cr10_14, cck_11, cr11_0, cg11_1, cp11_1, cr11_2, cr11_3, cr11_4, cr11_5, cr11_6, cr11_7, cr11_8, cr11_9, cr11_10, cr11_11, cr11_12, cr11_13, cr11_14, ca_30, cs_30, ca_31, cs_31, ca_32, cs_32, ca_33, cs_33, ca_34, cs_34, ca_35, cs_35, ca_36, cs_36, ca_37, cs_37, ca_38, cs_38, ca_39, cs_39, ca_40, cs_40, ca_41, cs_41, ca_42, cs_42, car_20, car_21, car_22, cq11_3, cq11_4, cq3_1, cq0_0, cq0_1, if_true, if_false, Option.bind_some, cb_e, lt_e, nI_1, hs_nar2, nh4, upd_at, vau_at, ca_42_0, cs_42_0, h7, if_neg n6, hF0, a1', b1', c1', f1', g1', f53', hr2, v1, nm']
    · obtain ⟨F6, s1, s2, s3, s4⟩ := c_slN (B := Bc) (r := r) (k := 3) sc5 (by decide) j402 (ck _ l2).2.1
      have s1' : fX3_slipAt 37 3 (nI (t + 1)) (mkC F5 Ac Bc r) = some ((), mkC F6 Ac Bc r) := s1
      obtain ⟨i, hi⟩ : ∃ i, fndN g (NM (t + 1)) nc 0 = some i := by
        cases hq : fndN g (NM (t + 1)) nc 0 with
        | none => exact absurd hq cf
        | some i => exact ⟨i, rfl⟩
      have ib := fndN_lt _ _ _ hi
      rw [hi] at nm
      have nm' : fX10_bookNamed d (jN (cN 32 (NM (t + 1)))) (mkC F5 Ac Bc r) = some (nI i, mkC F5 Ac Bc r) := nm
      have m1 : ¬ nI i = (-1 : Int32) := nI_ne1 (by omega)
      refine ⟨F6, ?_, fun c hc => (s3 c hc).trans (fo c hc), ⟨by rw [s4 7 (by decide) (by decide)]; exact k7, by rw [s4 8 (by decide) (by decide)]; exact k8⟩, fun q => absurd cz q, fun _ => ⟨by rw [decide_eq_true cf]; exact s2, ?_⟩⟩
      · unfold CPo at g2 ⊢
        rw [s4 2 (by decide) (by decide), s4 3 (by decide) (by decide), s4 4 (by decide) (by decide)]
        exact g2
      · unfold fX3_tellBook
        simp -implicitDefEqProofs (disch := first | assumption | omega | decide | exact And.intro (by omega) (by omega)) only [cck_0, cr0_0, cr0_1, cr0_2, cr0_3, cg0_4, cp0_4, cg0_5, cp0_5, cck_1, cg1_0, cp1_0, cr1_1, cr1_2, cr1_3, cg1_4, cp1_4, cg1_5, cp1_5, cr1_6, cr1_7, cck_2, cr2_0, cr2_1, cr2_2, cck_3, cr3_0, cr3_1, cg3_2, cp3_2, cg3_3, cp3_3, cg3_4, cp3_4, cg3_5, cp3_5, cg3_6, cp3_6, cg3_7, cp3_7, cg3_8, cp3_8, cck_4, cg4_0, cp4_0, cg4_1, cp4_1, cr4_2, cr4_3, cr4_4, cr4_5, cck_5, cg5_0, cp5_0, cr5_1, cr5_2, cr5_3, cck_6, cg6_0, cp6_0, cg6_1, cp6_1, cck_7, cg7_0, cp7_0, cg7_1, cp7_1, cr7_2, cr7_3, cr7_4, cr7_5, cr7_6, cr7_7, cr7_8, cck_8, cr8_0, cr8_1, cck_9, cr9_0, cr9_1, cr9_2, cr9_3, cg9_4, cp9_4, cck_10, cg10_0, cp10_0, cr10_1, cr10_2, cr10_3, cr10_4, cg10_5, cp10_5, cr10_6, cr10_7, cr10_8, cg10_9, cp10_9, cg10_10, cp10_10, cr10_11, cr10_12, cr10_13, cr10_14, cck_11, cr11_0, cg11_1, cp11_1, cr11_2, cr11_3, cr11_4, cr11_5, cr11_6, cr11_7, cr11_8, cr11_9, cr11_10, cr11_11, cr11_12, cr11_13, cr11_14, ca_30, cs_30, ca_31, cs_31, ca_32, cs_32, ca_33, cs_33, ca_34, cs_34, ca_35, cs_35, ca_36, cs_36, ca_37, cs_37, ca_38, cs_38, ca_39, cs_39, ca_40, cs_40, ca_41, cs_41, ca_42, cs_42, car_20, car_21, car_22, cq11_3, cq11_4, cq3_1, cq0_0, cq0_1, if_true, if_false, Option.bind_some, cb_e, lt_e, nI_1, hs_nar2, nh4, upd_at, vau_at, ca_42_0, cs_42_0, h7, if_neg n6, hF0, a1', b1', c1', f1', g1', f53', hr2, v1, nm', if_neg m1, s1']
  · have hz : ¬ nI (stp K 59 (stp K 17 (stp K 17 (stp K 16 (stp K 0 (0, t)))))).1 = 0 := nI_ne0 (by omega) (by omega)
    refine ⟨F5, g2, fo, ⟨k7, k8⟩, fun _ => ?_, fun q => absurd q cz⟩
    unfold fX3_tellBook
    simp -implicitDefEqProofs (disch := first | assumption | omega | decide | exact And.intro (by omega) (by omega)) only [cck_0, cr0_0, cr0_1, cr0_2, cr0_3, cg0_4, cp0_4, cg0_5, cp0_5, cck_1, cg1_0, cp1_0, cr1_1, cr1_2, cr1_3, cg1_4, cp1_4, cg1_5, cp1_5, cr1_6, cr1_7, cck_2, cr2_0, cr2_1, cr2_2, cck_3, cr3_0, cr3_1, cg3_2, cp3_2, cg3_3, cp3_3, cg3_4, cp3_4, cg3_5, cp3_5, cg3_6, cp3_6, cg3_7, cp3_7, cg3_8, cp3_8, cck_4, cg4_0, cp4_0, cg4_1, cp4_1, cr4_2, cr4_3, cr4_4, cr4_5, cck_5, cg5_0, cp5_0, cr5_1, cr5_2, cr5_3, cck_6, cg6_0, cp6_0, cg6_1, cp6_1, cck_7, cg7_0, cp7_0, cg7_1, cp7_1, cr7_2, cr7_3, cr7_4, cr7_5, cr7_6, cr7_7, cr7_8, cck_8, cr8_0, cr8_1, cck_9, cr9_0, cr9_1, cr9_2, cr9_3, cg9_4, cp9_4, cck_10, cg10_0, cp10_0, cr10_1, cr10_2, cr10_3, cr10_4, cg10_5, cp10_5, cr10_6, cr10_7, cr10_8, cg10_9, cp10_9, cg10_10, cp10_10, cr10_11, cr10_12, cr10_13, cr10_14, cck_11, cr11_0, cg11_1, cp11_1, cr11_2, cr11_3, cr11_4, cr11_5, cr11_6, cr11_7, cr11_8, cr11_9, cr11_10, cr11_11, cr11_12, cr11_13, cr11_14, ca_30, cs_30, ca_31, cs_31, ca_32, cs_32, ca_33, cs_33, ca_34, cs_34, ca_35, cs_35, ca_36, cs_36, ca_37, cs_37, ca_38, cs_38, ca_39, cs_39, ca_40, cs_40, ca_41, cs_41, ca_42, cs_42, car_20, car_21, car_22, cq11_3, cq11_4, cq3_1, cq0_0, cq0_1, if_true, if_false, Option.bind_some, cb_e, lt_e, nI_1, hs_nar2, nh4, upd_at, vau_at, ca_42_0, cs_42_0, h7, if_neg n6, hF0, a1', b1', c1', f1', g1', f53, if_neg hz]
end B90
