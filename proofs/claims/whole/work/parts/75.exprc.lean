/-! ===== the class reads expressions ===== -/
section CX75
variable {d M : Nat} {K V PL : Nat → Nat} {B : Nat → Nat → Int64} {r : Nat → Nat}
theorem CTr.rf {c : Nat} {F A : Nat → Nat → Int32} (h5 : F d 5 = nI c) (hc : c ≤ 400) : CTr d c F F A A := ⟨⟨fun _ _ _ => rfl, fun _ _ => rfl, fun _ _ _ _ => rfl, fun _ _ _ => rfl⟩, fun _ _ => ⟨rfl, rfl⟩, c, h5, Nat.le_refl _, hc⟩
/-- what only writes the parser's own fields -/
theorem CTr.own {c : Nat} {F F' A : Nat → Nat → Int32} (hd : d = 7 ∨ d = 22) (h5 : F d 5 = nI c) (hc : c ≤ 400) (h1 : ∀ c, ¬ c = 37 → F' c = F c) (h2 : ∀ k, ¬ k = 2 → ¬ k = 3 → ¬ k = 4 → F' 37 k = F 37 k) : CTr d c F F' A A := ⟨⟨fun x q _ => h1 x q, fun k _ => by rw [h1 d (by omega)], h2, fun _ _ _ => rfl⟩, fun _ _ => ⟨rfl, rfl⟩, c, by rw [h1 d (by omega)]; exact h5, Nat.le_refl _, hc⟩
theorem c_unit_post (E : Nat → Int32 → Sto → Option (Unit × Sto)) : CPs d M K V PL B r (fX3_unitg E) := by
  intro n c fa tp F A hfa hpo h5 hc htk
  have g3 := hpo.1
  obtain ⟨x, x1, x2, _⟩ := hpo.2.1
  have gz : ¬ nI fa = 0 := nI_ne0 (by omega) (by have := hpo.2.2.2; omega)
  have hx : x < 402 := by omega
  refine ⟨F, A, ?_, hpo, CTr.rf h5 hc⟩
  unfold fX3_unitg
  simp -implicitDefEqProofs (disch := first | assumption | omega | decide | exact And.intro (by omega) (by omega)) only [cck_0, cr0_0, cr0_1, cr0_2, cr0_3, cg0_4, cp0_4, cg0_5, cp0_5, cck_1, cg1_0, cp1_0, cr1_1, cr1_2, cr1_3, cg1_4, cp1_4, cg1_5, cp1_5, cr1_6, cr1_7, cck_2, cr2_0, cr2_1, cr2_2, cck_3, cr3_0, cr3_1, cg3_2, cp3_2, cg3_3, cp3_3, cg3_4, cp3_4, cg3_5, cp3_5, cg3_6, cp3_6, cg3_7, cp3_7, cg3_8, cp3_8, cck_4, cg4_0, cp4_0, cg4_1, cp4_1, cr4_2, cr4_3, cr4_4, cr4_5, cck_5, cg5_0, cp5_0, cr5_1, cr5_2, cr5_3, cck_6, cg6_0, cp6_0, cg6_1, cp6_1, cck_7, cg7_0, cp7_0, cg7_1, cp7_1, cr7_2, cr7_3, cr7_4, cr7_5, cr7_6, cr7_7, cr7_8, cck_8, cr8_0, cr8_1, cck_9, cr9_0, cr9_1, cr9_2, cr9_3, cg9_4, cp9_4, cck_10, cg10_0, cp10_0, cr10_1, cr10_2, cr10_3, cr10_4, cg10_5, cp10_5, cr10_6, cr10_7, cr10_8, cg10_9, cp10_9, cg10_10, cp10_10, cr10_11, cr10_12, cr10_13, cr10_14, cck_11, cr11_0, cg11_1, cp11_1, cr11_2, cr11_3, cr11_4, cr11_5, cr11_6, cr11_7, cr11_8, cr11_9, cr11_10, cr11_11, cr11_12, cr11_13, cr11_14, ca_30, cs_30, ca_31, cs_31, ca_32, cs_32, ca_33, cs_33, ca_34, cs_34, ca_35, cs_35, ca_36, cs_36, ca_37, cs_37, ca_38, cs_38, ca_39, cs_39, ca_40, cs_40, ca_41, cs_41, ca_42, cs_42, car_20, car_21, car_22, cq11_3, cq11_4, cq3_1, cq0_0, cq0_1, if_true, if_false, Option.bind_some, cb_e, lt_e, nI_1, hs_nar2, nh4, upd_at, vau_at, ca_42_0, cs_42_0, x2, g3, if_neg gz]
theorem c_unit_im {E : Nat → Int32 → Sto → Option (Unit × Sto)} {S : Nat → Nat → Rs} {hh : Nat → Nat} {n0 : Nat} (hK : TkK M K V) (hd : d = 7 ∨ d = 22) (hr : r 2 = d) (hS : SpOK (n0 + 1) M hh S) (hE : CIm d M K V PL B r E S (n0 + 1)) (hP : CPs d M K V PL B r E) : CIm d M K V PL B r (fX3_unitg E) (pU K V S) n0 := by
  have hM := hK.1
  intro n t c F A hn0 hn ht hpo h5 hc htk
  have f3 := hpo.1
  have f3' : F 37 3 = 0 := f3
  obtain ⟨x, x1, x2, x3⟩ := hpo.2.1
  rw [x3 rfl] at x2
  obtain ⟨k4, k5, k17⟩ := htk t ht
  have ht402 : t < 402 := by omega
  obtain ⟨vk1, vk2⟩ := hK.2.1 t ht
  have kl := vk_lt vk1
  have keq : ∀ z : Nat, z < 256 → (nI (K t) = nI z ↔ K t = z) := fun z hz => nI_eq (by omega) (by omega)
  have hr2 : ∀ (F A : Nat → Nat → Int32), gR (mkC F A B r) 3 37 1 = some d := fun F A => by rw [cr3_1 rfl, hr]
  have cT : CTr d c F F A A := CTr.rf h5 (by omega)
  unfold fX3_unitg pU
  simp -implicitDefEqProofs (disch := first | assumption | omega | decide | exact And.intro (by omega) (by omega)) only [cck_0, cr0_0, cr0_1, cr0_2, cr0_3, cg0_4, cp0_4, cg0_5, cp0_5, cck_1, cg1_0, cp1_0, cr1_1, cr1_2, cr1_3, cg1_4, cp1_4, cg1_5, cp1_5, cr1_6, cr1_7, cck_2, cr2_0, cr2_1, cr2_2, cck_3, cr3_0, cr3_1, cg3_2, cp3_2, cg3_3, cp3_3, cg3_4, cp3_4, cg3_5, cp3_5, cg3_6, cp3_6, cg3_7, cp3_7, cg3_8, cp3_8, cck_4, cg4_0, cp4_0, cg4_1, cp4_1, cr4_2, cr4_3, cr4_4, cr4_5, cck_5, cg5_0, cp5_0, cr5_1, cr5_2, cr5_3, cck_6, cg6_0, cp6_0, cg6_1, cp6_1, cck_7, cg7_0, cp7_0, cg7_1, cp7_1, cr7_2, cr7_3, cr7_4, cr7_5, cr7_6, cr7_7, cr7_8, cck_8, cr8_0, cr8_1, cck_9, cr9_0, cr9_1, cr9_2, cr9_3, cg9_4, cp9_4, cck_10, cg10_0, cp10_0, cr10_1, cr10_2, cr10_3, cr10_4, cg10_5, cp10_5, cr10_6, cr10_7, cr10_8, cg10_9, cp10_9, cg10_10, cp10_10, cr10_11, cr10_12, cr10_13, cr10_14, cck_11, cr11_0, cg11_1, cp11_1, cr11_2, cr11_3, cr11_4, cr11_5, cr11_6, cr11_7, cr11_8, cr11_9, cr11_10, cr11_11, cr11_12, cr11_13, cr11_14, ca_30, cs_30, ca_31, cs_31, ca_32, cs_32, ca_33, cs_33, ca_34, cs_34, ca_35, cs_35, ca_36, cs_36, ca_37, cs_37, ca_38, cs_38, ca_39, cs_39, ca_40, cs_40, ca_41, cs_41, ca_42, cs_42, car_20, car_21, car_22, cq11_3, cq11_4, cq3_1, cq0_0, cq0_1, if_true, if_false, Option.bind_some, cb_e, lt_e, nI_1, hs_nar2, nh4, upd_at, vau_at, ca_42_0, cs_42_0, x2, k4, f3']
  by_cases c17 : K t = 17
  · rw [if_pos (show nI (K t) = (17 : Int32) from (keq 17 (by decide)).2 c17), if_pos c17]
    have bv := k17 c17
    have v9 := vk2 c17
    have eV : (jN (V t)).toInt32 = nI (V t) := jJ_iI (x := (V t : Int)) ⟨by omega, by omega⟩
    obtain ⟨v, F1, A1, e1, e3, e2, e7⟩ := c_emit (B := B) (r := r) hd h5 (by omega) (A := A) 1 (nI (V t))
    obtain ⟨c1, hc1, hc2, hc3⟩ := e2.2.2
    obtain ⟨F2, z1, z2, z3, z4⟩ := c_take (B := B) (r := r) hK ht (hpo.eq e3) (htk.fr hd e2.1) (k := 17) (by decide) (by decide)
    have z1' : fX3_take 37 17 (mkC F1 A1 B r) = some (nI t, mkC F2 A1 B r) := z1
    refine ⟨F2, A1, ?_, z2, e2.tr (CTr.own hd hc1 hc3 z3 z4) hc2, fun q => ?_⟩
    · simp -implicitDefEqProofs (disch := first | assumption | omega | decide | exact And.intro (by omega) (by omega)) only [cck_0, cr0_0, cr0_1, cr0_2, cr0_3, cg0_4, cp0_4, cg0_5, cp0_5, cck_1, cg1_0, cp1_0, cr1_1, cr1_2, cr1_3, cg1_4, cp1_4, cg1_5, cp1_5, cr1_6, cr1_7, cck_2, cr2_0, cr2_1, cr2_2, cck_3, cr3_0, cr3_1, cg3_2, cp3_2, cg3_3, cp3_3, cg3_4, cp3_4, cg3_5, cp3_5, cg3_6, cp3_6, cg3_7, cp3_7, cg3_8, cp3_8, cck_4, cg4_0, cp4_0, cg4_1, cp4_1, cr4_2, cr4_3, cr4_4, cr4_5, cck_5, cg5_0, cp5_0, cr5_1, cr5_2, cr5_3, cck_6, cg6_0, cp6_0, cg6_1, cp6_1, cck_7, cg7_0, cp7_0, cg7_1, cp7_1, cr7_2, cr7_3, cr7_4, cr7_5, cr7_6, cr7_7, cr7_8, cck_8, cr8_0, cr8_1, cck_9, cr9_0, cr9_1, cr9_2, cr9_3, cg9_4, cp9_4, cck_10, cg10_0, cp10_0, cr10_1, cr10_2, cr10_3, cr10_4, cg10_5, cp10_5, cr10_6, cr10_7, cr10_8, cg10_9, cp10_9, cg10_10, cp10_10, cr10_11, cr10_12, cr10_13, cr10_14, cck_11, cr11_0, cg11_1, cp11_1, cr11_2, cr11_3, cr11_4, cr11_5, cr11_6, cr11_7, cr11_8, cr11_9, cr11_10, cr11_11, cr11_12, cr11_13, cr11_14, ca_30, cs_30, ca_31, cs_31, ca_32, cs_32, ca_33, cs_33, ca_34, cs_34, ca_35, cs_35, ca_36, cs_36, ca_37, cs_37, ca_38, cs_38, ca_39, cs_39, ca_40, cs_40, ca_41, cs_41, ca_42, cs_42, car_20, car_21, car_22, cq11_3, cq11_4, cq3_1, cq0_0, cq0_1, if_true, if_false, Option.bind_some, cb_e, lt_e, nI_1, hs_nar2, nh4, upd_at, vau_at, ca_42_0, cs_42_0, hr, hr2, bv, eV, e1, z1']
    · have t4 := ((tkk_ok hK (k := 17) (by decide) ht).2 q).2.2
      obtain ⟨e8, e9, e10, e11⟩ := e7 (by omega)
      exact ⟨by rw [z3 d (by omega)]; exact e9, ⟨⟨by rw [e10, upd_at]; rfl, fun _ => by rw [e11, upd_at]; rfl⟩, trivial⟩⟩
  rw [if_neg (show ¬ nI (K t) = (17 : Int32) from fun q => c17 ((keq 17 (by decide)).1 q)), if_neg c17]
  have b90 : ¬ (11 ≤ K t ∧ K t ≤ 15) → ∃ F' A', fX3_unit_b90 E 37 (nI n) (nI (K t)) (mkC F A B r) = some ((), mkC F' A' B r) ∧ CPo F' PL (if K t = 40 then (if n = 6 then (2, t, []) else if t < 400 then (if (S (n + 1) (t + 1)).1 = 0 then ((tkk K 41 (S (n + 1) (t + 1)).2.1).1, (tkk K 41 (S (n + 1) (t + 1)).2.1).2, (S (n + 1) (t + 1)).2.2) else S (n + 1) (t + 1)) else (2, t, [])) else ((1, t, []) : Rs)).1 (if K t = 40 then (if n = 6 then (2, t, []) else if t < 400 then (if (S (n + 1) (t + 1)).1 = 0 then ((tkk K 41 (S (n + 1) (t + 1)).2.1).1, (tkk K 41 (S (n + 1) (t + 1)).2.1).2, (S (n + 1) (t + 1)).2.2) else S (n + 1) (t + 1)) else (2, t, [])) else ((1, t, []) : Rs)).2.1 ∧ CTr d c F F' A A' ∧ ((if K t = 40 then (if n = 6 then (2, t, []) else if t < 400 then (if (S (n + 1) (t + 1)).1 = 0 then ((tkk K 41 (S (n + 1) (t + 1)).2.1).1, (tkk K 41 (S (n + 1) (t + 1)).2.1).2, (S (n + 1) (t + 1)).2.2) else S (n + 1) (t + 1)) else (2, t, [])) else ((1, t, []) : Rs)).1 = 0 → F' d 5 = nI (c + (if K t = 40 then (if n = 6 then (2, t, []) else if t < 400 then (if (S (n + 1) (t + 1)).1 = 0 then ((tkk K 41 (S (n + 1) (t + 1)).2.1).1, (tkk K 41 (S (n + 1) (t + 1)).2.1).2, (S (n + 1) (t + 1)).2.2) else S (n + 1) (t + 1)) else (2, t, [])) else ((1, t, []) : Rs)).2.2.length) ∧ SegC A' d c (if K t = 40 then (if n = 6 then (2, t, []) else if t < 400 then (if (S (n + 1) (t + 1)).1 = 0 then ((tkk K 41 (S (n + 1) (t + 1)).2.1).1, (tkk K 41 (S (n + 1) (t + 1)).2.1).2, (S (n + 1) (t + 1)).2.2) else S (n + 1) (t + 1)) else (2, t, [])) else ((1, t, []) : Rs)).2.2) := by
    intro _
    unfold fX3_unit_b90
    by_cases c40 : K t = 40
    · rw [if_pos (show nI (K t) = (40 : Int32) from (keq 40 (by decide)).2 c40), if_pos c40]
      by_cases c6 : n = 6
      · rw [if_pos (show nI n = (6 : Int32) by rw [c6]; rfl), if_pos c6]
        obtain ⟨F1, z1, z2, z3, z4⟩ := c_fail (r := r) hK ht hpo htk (n := 2) (by decide) (by decide)
        have z1' : fX3_fail 37 2 (mkC F A B r) = some ((), mkC F1 A B r) := z1
        refine ⟨F1, A, ?_, z2, CTr.own hd h5 (by omega) z3 z4, fun q => (by cases q)⟩
        simp -implicitDefEqProofs (disch := first | assumption | omega | decide | exact And.intro (by omega) (by omega)) only [cck_0, cr0_0, cr0_1, cr0_2, cr0_3, cg0_4, cp0_4, cg0_5, cp0_5, cck_1, cg1_0, cp1_0, cr1_1, cr1_2, cr1_3, cg1_4, cp1_4, cg1_5, cp1_5, cr1_6, cr1_7, cck_2, cr2_0, cr2_1, cr2_2, cck_3, cr3_0, cr3_1, cg3_2, cp3_2, cg3_3, cp3_3, cg3_4, cp3_4, cg3_5, cp3_5, cg3_6, cp3_6, cg3_7, cp3_7, cg3_8, cp3_8, cck_4, cg4_0, cp4_0, cg4_1, cp4_1, cr4_2, cr4_3, cr4_4, cr4_5, cck_5, cg5_0, cp5_0, cr5_1, cr5_2, cr5_3, cck_6, cg6_0, cp6_0, cg6_1, cp6_1, cck_7, cg7_0, cp7_0, cg7_1, cp7_1, cr7_2, cr7_3, cr7_4, cr7_5, cr7_6, cr7_7, cr7_8, cck_8, cr8_0, cr8_1, cck_9, cr9_0, cr9_1, cr9_2, cr9_3, cg9_4, cp9_4, cck_10, cg10_0, cp10_0, cr10_1, cr10_2, cr10_3, cr10_4, cg10_5, cp10_5, cr10_6, cr10_7, cr10_8, cg10_9, cp10_9, cg10_10, cp10_10, cr10_11, cr10_12, cr10_13, cr10_14, cck_11, cr11_0, cg11_1, cp11_1, cr11_2, cr11_3, cr11_4, cr11_5, cr11_6, cr11_7, cr11_8, cr11_9, cr11_10, cr11_11, cr11_12, cr11_13, cr11_14, ca_30, cs_30, ca_31, cs_31, ca_32, cs_32, ca_33, cs_33, ca_34, cs_34, ca_35, cs_35, ca_36, cs_36, ca_37, cs_37, ca_38, cs_38, ca_39, cs_39, ca_40, cs_40, ca_41, cs_41, ca_42, cs_42, car_20, car_21, car_22, cq11_3, cq11_4, cq3_1, cq0_0, cq0_1, if_true, if_false, Option.bind_some, cb_e, lt_e, nI_1, hs_nar2, nh4, upd_at, vau_at, ca_42_0, cs_42_0, z1']
      · rw [if_neg (show ¬ nI n = (6 : Int32) from fun q => c6 ((nI_eq (b := 6) (by omega) (by decide)).1 q)), if_neg c6]
        obtain ⟨F1, z1, z2, z3, z4⟩ := c_take (B := B) (r := r) hK ht hpo htk (k := 40) (by decide) (by decide)
        have z1' : fX3_take 37 40 (mkC F A B r) = some (nI t, mkC F1 A B r) := z1
        have tk1 : tkk K 40 t = if t < 400 then (0, t + 1) else (2, t) := by unfold tkk; rw [if_pos c40]
        rw [tk1] at z2
        have f15 : F1 d 5 = nI c := by rw [z3 d (by omega)]; exact h5
        have tr1 : CTr d c F F1 A A := CTr.own hd h5 (by omega) z3 z4
        by_cases c4 : t < 400
        · rw [if_pos c4] at z2 ⊢
          have t1 := hK.on ht (by omega) c4
          obtain ⟨F2, A2, u1, u2, u3, u7⟩ := hE (n + 1) (t + 1) c F1 A (by omega) (by omega) t1 z2 f15 (by omega) htk
          obtain ⟨⟨s1, s2, s3⟩, s4⟩ := hS (n + 1) (t + 1) (by omega) (by omega) t1
          have htk2 : CTk A2 B M K V PL := htk.fr hd u3.1
          obtain ⟨c2, hc2, hc3, hc4⟩ := u3.2.2
          by_cases cS : (S (n + 1) (t + 1)).1 = 0
          · rw [if_pos cS]
            rw [cS] at u2
            obtain ⟨F3, w1, w2, w3, w4⟩ := c_take (B := B) (r := r) hK s2 u2 htk2 (k := 41) (by decide) (by decide)
            have w1' : fX3_take 37 41 (mkC F2 A2 B r) = some (nI (S (n + 1) (t + 1)).2.1, mkC F3 A2 B r) := w1
            refine ⟨F3, A2, ?_, w2, tr1.tr (u3.tr (CTr.own hd hc2 hc4 w3 w4) hc3) (Nat.le_refl _), fun _ => ?_⟩
            · simp -implicitDefEqProofs (disch := first | assumption | omega | decide | exact And.intro (by omega) (by omega)) only [cck_0, cr0_0, cr0_1, cr0_2, cr0_3, cg0_4, cp0_4, cg0_5, cp0_5, cck_1, cg1_0, cp1_0, cr1_1, cr1_2, cr1_3, cg1_4, cp1_4, cg1_5, cp1_5, cr1_6, cr1_7, cck_2, cr2_0, cr2_1, cr2_2, cck_3, cr3_0, cr3_1, cg3_2, cp3_2, cg3_3, cp3_3, cg3_4, cp3_4, cg3_5, cp3_5, cg3_6, cp3_6, cg3_7, cp3_7, cg3_8, cp3_8, cck_4, cg4_0, cp4_0, cg4_1, cp4_1, cr4_2, cr4_3, cr4_4, cr4_5, cck_5, cg5_0, cp5_0, cr5_1, cr5_2, cr5_3, cck_6, cg6_0, cp6_0, cg6_1, cp6_1, cck_7, cg7_0, cp7_0, cg7_1, cp7_1, cr7_2, cr7_3, cr7_4, cr7_5, cr7_6, cr7_7, cr7_8, cck_8, cr8_0, cr8_1, cck_9, cr9_0, cr9_1, cr9_2, cr9_3, cg9_4, cp9_4, cck_10, cg10_0, cp10_0, cr10_1, cr10_2, cr10_3, cr10_4, cg10_5, cp10_5, cr10_6, cr10_7, cr10_8, cg10_9, cp10_9, cg10_10, cp10_10, cr10_11, cr10_12, cr10_13, cr10_14, cck_11, cr11_0, cg11_1, cp11_1, cr11_2, cr11_3, cr11_4, cr11_5, cr11_6, cr11_7, cr11_8, cr11_9, cr11_10, cr11_11, cr11_12, cr11_13, cr11_14, ca_30, cs_30, ca_31, cs_31, ca_32, cs_32, ca_33, cs_33, ca_34, cs_34, ca_35, cs_35, ca_36, cs_36, ca_37, cs_37, ca_38, cs_38, ca_39, cs_39, ca_40, cs_40, ca_41, cs_41, ca_42, cs_42, car_20, car_21, car_22, cq11_3, cq11_4, cq3_1, cq0_0, cq0_1, if_true, if_false, Option.bind_some, cb_e, lt_e, nI_1, hs_nar2, nh4, upd_at, vau_at, ca_42_0, cs_42_0, z1', u1, w1']
            · obtain ⟨y1, y2⟩ := u7 cS
              exact ⟨by rw [w3 d (by omega)]; exact y1, y2⟩
          · rw [if_neg cS]
            have w1 := c_takeF (B := B) (r := r) (A := A2) u2 cS 41
            refine ⟨F2, A2, ?_, u2, tr1.tr u3 (Nat.le_refl _), fun q => absurd q cS⟩
            simp -implicitDefEqProofs (disch := first | assumption | omega | decide | exact And.intro (by omega) (by omega)) only [cck_0, cr0_0, cr0_1, cr0_2, cr0_3, cg0_4, cp0_4, cg0_5, cp0_5, cck_1, cg1_0, cp1_0, cr1_1, cr1_2, cr1_3, cg1_4, cp1_4, cg1_5, cp1_5, cr1_6, cr1_7, cck_2, cr2_0, cr2_1, cr2_2, cck_3, cr3_0, cr3_1, cg3_2, cp3_2, cg3_3, cp3_3, cg3_4, cp3_4, cg3_5, cp3_5, cg3_6, cp3_6, cg3_7, cp3_7, cg3_8, cp3_8, cck_4, cg4_0, cp4_0, cg4_1, cp4_1, cr4_2, cr4_3, cr4_4, cr4_5, cck_5, cg5_0, cp5_0, cr5_1, cr5_2, cr5_3, cck_6, cg6_0, cp6_0, cg6_1, cp6_1, cck_7, cg7_0, cp7_0, cg7_1, cp7_1, cr7_2, cr7_3, cr7_4, cr7_5, cr7_6, cr7_7, cr7_8, cck_8, cr8_0, cr8_1, cck_9, cr9_0, cr9_1, cr9_2, cr9_3, cg9_4, cp9_4, cck_10, cg10_0, cp10_0, cr10_1, cr10_2, cr10_3, cr10_4, cg10_5, cp10_5, cr10_6, cr10_7, cr10_8, cg10_9, cp10_9, cg10_10, cp10_10, cr10_11, cr10_12, cr10_13, cr10_14, cck_11, cr11_0, cg11_1, cp11_1, cr11_2, cr11_3, cr11_4, cr11_5, cr11_6, cr11_7, cr11_8, cr11_9, cr11_10, cr11_11, cr11_12, cr11_13, cr11_14, ca_30, cs_30, ca_31, cs_31, ca_32, cs_32, ca_33, cs_33, ca_34, cs_34, ca_35, cs_35, ca_36, cs_36, ca_37, cs_37, ca_38, cs_38, ca_39, cs_39, ca_40, cs_40, ca_41, cs_41, ca_42, cs_42, car_20, car_21, car_22, cq11_3, cq11_4, cq3_1, cq0_0, cq0_1, if_true, if_false, Option.bind_some, cb_e, lt_e, nI_1, hs_nar2, nh4, upd_at, vau_at, ca_42_0, cs_42_0, z1', u1, w1]
        · rw [if_neg c4] at z2 ⊢
          obtain ⟨F2, A2, u1, u2, u3⟩ := hP (nI (n + 1)) c 2 t F1 A (by decide) z2 f15 (by omega) htk
          have w1 := c_takeF (B := B) (r := r) (A := A2) u2 (by decide) 41
          refine ⟨F2, A2, ?_, u2, tr1.tr u3 (Nat.le_refl _), fun q => (by cases q)⟩
          simp -implicitDefEqProofs (disch := first | assumption | omega | decide | exact And.intro (by omega) (by omega)) only [cck_0, cr0_0, cr0_1, cr0_2, cr0_3, cg0_4, cp0_4, cg0_5, cp0_5, cck_1, cg1_0, cp1_0, cr1_1, cr1_2, cr1_3, cg1_4, cp1_4, cg1_5, cp1_5, cr1_6, cr1_7, cck_2, cr2_0, cr2_1, cr2_2, cck_3, cr3_0, cr3_1, cg3_2, cp3_2, cg3_3, cp3_3, cg3_4, cp3_4, cg3_5, cp3_5, cg3_6, cp3_6, cg3_7, cp3_7, cg3_8, cp3_8, cck_4, cg4_0, cp4_0, cg4_1, cp4_1, cr4_2, cr4_3, cr4_4, cr4_5, cck_5, cg5_0, cp5_0, cr5_1, cr5_2, cr5_3, cck_6, cg6_0, cp6_0, cg6_1, cp6_1, cck_7, cg7_0, cp7_0, cg7_1, cp7_1, cr7_2, cr7_3, cr7_4, cr7_5, cr7_6, cr7_7, cr7_8, cck_8, cr8_0, cr8_1, cck_9, cr9_0, cr9_1, cr9_2, cr9_3, cg9_4, cp9_4, cck_10, cg10_0, cp10_0, cr10_1, cr10_2, cr10_3, cr10_4, cg10_5, cp10_5, cr10_6, cr10_7, cr10_8, cg10_9, cp10_9, cg10_10, cp10_10, cr10_11, cr10_12, cr10_13, cr10_14, cck_11, cr11_0, cg11_1, cp11_1, cr11_2, cr11_3, cr11_4, cr11_5, cr11_6, cr11_7, cr11_8, cr11_9, cr11_10, cr11_11, cr11_12, cr11_13, cr11_14, ca_30, cs_30, ca_31, cs_31, ca_32, cs_32, ca_33, cs_33, ca_34, cs_34, ca_35, cs_35, ca_36, cs_36, ca_37, cs_37, ca_38, cs_38, ca_39, cs_39, ca_40, cs_40, ca_41, cs_41, ca_42, cs_42, car_20, car_21, car_22, cq11_3, cq11_4, cq3_1, cq0_0, cq0_1, if_true, if_false, Option.bind_some, cb_e, lt_e, nI_1, hs_nar2, nh4, upd_at, vau_at, ca_42_0, cs_42_0, z1', u1, w1]
    · rw [if_neg (show ¬ nI (K t) = (40 : Int32) from fun q => c40 ((keq 40 (by decide)).1 q)), if_neg c40]
      obtain ⟨F1, z1, z2, z3, z4⟩ := c_fail (r := r) hK ht hpo htk (n := 1) (by decide) (by decide)
      have z1' : fX3_fail 37 1 (mkC F A B r) = some ((), mkC F1 A B r) := z1
      refine ⟨F1, A, ?_, z2, CTr.own hd h5 (by omega) z3 z4, fun q => (by cases q)⟩
      simp -implicitDefEqProofs (disch := first | assumption | omega | decide | exact And.intro (by omega) (by omega)) only [cck_0, cr0_0, cr0_1, cr0_2, cr0_3, cg0_4, cp0_4, cg0_5, cp0_5, cck_1, cg1_0, cp1_0, cr1_1, cr1_2, cr1_3, cg1_4, cp1_4, cg1_5, cp1_5, cr1_6, cr1_7, cck_2, cr2_0, cr2_1, cr2_2, cck_3, cr3_0, cr3_1, cg3_2, cp3_2, cg3_3, cp3_3, cg3_4, cp3_4, cg3_5, cp3_5, cg3_6, cp3_6, cg3_7, cp3_7, cg3_8, cp3_8, cck_4, cg4_0, cp4_0, cg4_1, cp4_1, cr4_2, cr4_3, cr4_4, cr4_5, cck_5, cg5_0, cp5_0, cr5_1, cr5_2, cr5_3, cck_6, cg6_0, cp6_0, cg6_1, cp6_1, cck_7, cg7_0, cp7_0, cg7_1, cp7_1, cr7_2, cr7_3, cr7_4, cr7_5, cr7_6, cr7_7, cr7_8, cck_8, cr8_0, cr8_1, cck_9, cr9_0, cr9_1, cr9_2, cr9_3, cg9_4, cp9_4, cck_10, cg10_0, cp10_0, cr10_1, cr10_2, cr10_3, cr10_4, cg10_5, cp10_5, cr10_6, cr10_7, cr10_8, cg10_9, cp10_9, cg10_10, cp10_10, cr10_11, cr10_12, cr10_13, cr10_14, cck_11, cr11_0, cg11_1, cp11_1, cr11_2, cr11_3, cr11_4, cr11_5, cr11_6, cr11_7, cr11_8, cr11_9, cr11_10, cr11_11, cr11_12, cr11_13, cr11_14, ca_30, cs_30, ca_31, cs_31, ca_32, cs_32, ca_33, cs_33, ca_34, cs_34, ca_35, cs_35, ca_36, cs_36, ca_37, cs_37, ca_38, cs_38, ca_39, cs_39, ca_40, cs_40, ca_41, cs_41, ca_42, cs_42, car_20, car_21, car_22, cq11_3, cq11_4, cq3_1, cq0_0, cq0_1, if_true, if_false, Option.bind_some, cb_e, lt_e, nI_1, hs_nar2, nh4, upd_at, vau_at, ca_42_0, cs_42_0, z1']
  by_cases c11 : K t < 11
  · rw [if_pos (show nI (K t) < (11 : Int32) from nI_lt (b := 11) c11 (by decide)), if_neg (show ¬ (11 ≤ K t ∧ K t ≤ 15) by omega)]
    exact b90 (by omega)
  rw [if_neg (show ¬ nI (K t) < (11 : Int32) from nI_nlt (b := 11) (by omega) (by omega))]
  by_cases c15 : 15 < K t
  · rw [if_pos (show (15 : Int32) < nI (K t) from nI_lt (a := 15) c15 (by omega)), if_neg (show ¬ (11 ≤ K t ∧ K t ≤ 15) by omega)]
    exact b90 (by omega)
  rw [if_neg (show ¬ (15 : Int32) < nI (K t) from nI_nlt (a := 15) (by omega) (by decide)), if_pos (show 11 ≤ K t ∧ K t ≤ 15 by omega)]
  obtain ⟨v, F1, A1, e1, e3, e2, e7⟩ := c_emit (B := B) (r := r) hd h5 (by omega) (A := A) 2 (nI (K t))
  obtain ⟨c1, hc1, hc2, hc3⟩ := e2.2.2
  obtain ⟨F2, z1, z2, z3, z4⟩ := c_take (B := B) (r := r) hK ht (hpo.eq e3) (htk.fr hd e2.1) (k := K t) (by omega) (by omega)
  refine ⟨F2, A1, ?_, z2, e2.tr (CTr.own hd hc1 hc3 z3 z4) hc2, fun q => ?_⟩
  · simp -implicitDefEqProofs (disch := first | assumption | omega | decide | exact And.intro (by omega) (by omega)) only [cck_0, cr0_0, cr0_1, cr0_2, cr0_3, cg0_4, cp0_4, cg0_5, cp0_5, cck_1, cg1_0, cp1_0, cr1_1, cr1_2, cr1_3, cg1_4, cp1_4, cg1_5, cp1_5, cr1_6, cr1_7, cck_2, cr2_0, cr2_1, cr2_2, cck_3, cr3_0, cr3_1, cg3_2, cp3_2, cg3_3, cp3_3, cg3_4, cp3_4, cg3_5, cp3_5, cg3_6, cp3_6, cg3_7, cp3_7, cg3_8, cp3_8, cck_4, cg4_0, cp4_0, cg4_1, cp4_1, cr4_2, cr4_3, cr4_4, cr4_5, cck_5, cg5_0, cp5_0, cr5_1, cr5_2, cr5_3, cck_6, cg6_0, cp6_0, cg6_1, cp6_1, cck_7, cg7_0, cp7_0, cg7_1, cp7_1, cr7_2, cr7_3, cr7_4, cr7_5, cr7_6, cr7_7, cr7_8, cck_8, cr8_0, cr8_1, cck_9, cr9_0, cr9_1, cr9_2, cr9_3, cg9_4, cp9_4, cck_10, cg10_0, cp10_0, cr10_1, cr10_2, cr10_3, cr10_4, cg10_5, cp10_5, cr10_6, cr10_7, cr10_8, cg10_9, cp10_9, cg10_10, cp10_10, cr10_11, cr10_12, cr10_13, cr10_14, cck_11, cr11_0, cg11_1, cp11_1, cr11_2, cr11_3, cr11_4, cr11_5, cr11_6, cr11_7, cr11_8, cr11_9, cr11_10, cr11_11, cr11_12, cr11_13, cr11_14, ca_30, cs_30, ca_31, cs_31, ca_32, cs_32, ca_33, cs_33, ca_34, cs_34, ca_35, cs_35, ca_36, cs_36, ca_37, cs_37, ca_38, cs_38, ca_39, cs_39, ca_40, cs_40, ca_41, cs_41, ca_42, cs_42, car_20, car_21, car_22, cq11_3, cq11_4, cq3_1, cq0_0, cq0_1, if_true, if_false, Option.bind_some, cb_e, lt_e, nI_1, hs_nar2, nh4, upd_at, vau_at, ca_42_0, cs_42_0, hr, e1, z1]
  · have t4 := ((tkk_ok hK (k := K t) (by omega) ht).2 q).2.2
    obtain ⟨e8, e9, e10, e11⟩ := e7 (by omega)
    refine ⟨by rw [z3 d (by omega)]; exact e9, ⟨⟨by rw [e10, upd_at]; rfl, fun _ => ?_⟩, trivial⟩⟩
    rw [e11, upd_at]
    congr 1
    show K t = 11 + (K t - 11)
    omega
theorem c_exprD (hK : TkK M K V) (hd : d = 7 ∨ d = 22) (hr : r 2 = d) : ∀ e, (∀ n0, 8 ≤ e + n0 → CIm d M K V PL B r (fX3_exprD e) (pD K V e) n0) ∧ (1 ≤ e → CPs d M K V PL B r (fX3_exprD e))
  | 0 => ⟨fun n0 h n t c F A h1 h2 => by omega, fun h => absurd h (by decide)⟩
  | e + 1 => by
    obtain ⟨i1, i2⟩ := c_exprD hK hd hr e
    have up : CPs d M K V PL B r (fX3_unitg (fX3_exprD e)) := c_unit_post _
    have pp := c_part_post up
    refine ⟨fun n0 h => ?_, fun _ => ?_⟩
    · by_cases c : 7 ≤ n0
      · intro n t c' F A h1 h2
        omega
      · have ui := c_unit_im hK hd hr (pD_ok hK e (n0 + 1) (by omega)) (i1 (n0 + 1) (by omega)) (i2 (by omega))
        have us := pU_ok hK (pD_ok hK e (n0 + 1) (by omega))
        have pi := c_part_im hK hd hr us ui up
        have psx := pJ_ok hK us (x := 42) (y := 47) (by decide) (by decide)
        have ei := c_expression_im hK hd hr psx pi pp
        rw [pD_eq]
        exact ei
    · exact c_expression_post pp
theorem c_expr (hK : TkK M K V) (hd : d = 7 ∨ d = 22) (hr : r 2 = d) {t c : Nat} {F A : Nat → Nat → Int32} (ht : t ≤ M) (hpo : CPo F PL 0 t) (h5 : F d 5 = nI c) (hc : c ≤ t) (htk : CTk A B M K V PL) : ∃ F' A', fX3_expression 37 0 (mkC F A B r) = some ((), mkC F' A' B r) ∧ CPo F' PL (pD K V 8 0 t).1 (pD K V 8 0 t).2.1 ∧ CTr d c F F' A A' ∧ ((pD K V 8 0 t).1 = 0 → F' d 5 = nI (c + (pD K V 8 0 t).2.2.length) ∧ SegC A' d c (pD K V 8 0 t).2.2) :=
  (c_exprD hK hd hr 8).1 0 (by decide) 0 t c F A (Nat.le_refl _) (by decide) ht hpo h5 hc htk
theorem c_exprF (hK : TkK M K V) (hd : d = 7 ∨ d = 22) (hr : r 2 = d) {fa tp c : Nat} {F A : Nat → Nat → Int32} (hfa : ¬ fa = 0) (hpo : CPo F PL fa tp) (h5 : F d 5 = nI c) (hc : c ≤ 400) (htk : CTk A B M K V PL) : ∃ F' A', fX3_expression 37 0 (mkC F A B r) = some ((), mkC F' A' B r) ∧ CPo F' PL fa tp ∧ CTr d c F F' A A' :=
  (c_exprD hK hd hr 8).2 (by decide) 0 c fa tp F A hfa hpo h5 hc htk
end CX75
