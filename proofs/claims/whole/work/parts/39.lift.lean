/-! ===== lift, move, undo ===== -/
theorem ag_lift : Ag_ Rel fX11_lift fX12_lift := by
  intro σc σm hR
  obtain ⟨F, A, B, Fc, Ac, Bc, rc, t, lv, T, u, w, ps, n7, sp, rfl, rfl, hT, hC⟩ := id hR
  have h6 := hC.goodP.1
  have hcp := hC.crow.2.2.2.1
  have hs := hcp.1
  have ms := hC.mp.1
  rw [Nat.zero_add] at ms
  have e1 : nI (ps u).1 - 1 = iI (((ps u).1 : Int) - 1) := iI_sub ((ps u).1 : Int) 1
  obtain ⟨b1, _⟩ := both_level hC (x := ((ps u).1 : Int) - 1) ⟨by omega, by omega⟩
  unfold fX11_lift fX12_lift
  by_cases c : (ps u).1 = 0
  · have cz : nI (ps u).1 = 0 := by rw [c]; rfl
    refine ⟨-1, mkC Fc Ac Bc rc, mkM F A B, ?_, ?_, hR⟩
    · simp (disch := first | assumption | omega | decide | exact And.intro (by omega) (by omega)) only [cck_0, cr0_0, cr0_1, cr0_2, cr0_3, cg0_4, cp0_4, cg0_5, cp0_5, cck_1, cg1_0, cp1_0, cr1_1, cr1_2, cr1_3, cg1_4, cp1_4, cg1_5, cp1_5, cr1_6, cr1_7, cck_2, cr2_0, cr2_1, cr2_2, cck_3, cr3_0, cr3_1, cg3_2, cp3_2, cg3_3, cp3_3, cg3_4, cp3_4, cg3_5, cp3_5, cg3_6, cp3_6, cg3_7, cp3_7, cg3_8, cp3_8, cck_4, cg4_0, cp4_0, cg4_1, cp4_1, cr4_2, cr4_3, cr4_4, cr4_5, cck_5, cg5_0, cp5_0, cr5_1, cr5_2, cr5_3, cck_6, cg6_0, cp6_0, cg6_1, cp6_1, cck_7, cg7_0, cp7_0, cg7_1, cp7_1, cr7_2, cr7_3, cr7_4, cr7_5, cr7_6, cr7_7, cr7_8, cck_8, cr8_0, cr8_1, cck_9, cr9_0, cr9_1, cr9_2, cr9_3, cg9_4, cp9_4, cck_10, cg10_0, cp10_0, cr10_1, cr10_2, cr10_3, cr10_4, cg10_5, cp10_5, cr10_6, cr10_7, cr10_8, cg10_9, cp10_9, cg10_10, cp10_10, cr10_11, cr10_12, cr10_13, cr10_14, cck_11, cr11_0, cg11_1, cp11_1, cr11_2, cr11_3, cr11_4, cr11_5, cr11_6, cr11_7, cr11_8, cr11_9, cr11_10, cr11_11, cr11_12, cr11_13, cr11_14, ca_30, cs_30, ca_31, cs_31, ca_32, cs_32, ca_33, cs_33, ca_34, cs_34, ca_35, cs_35, ca_36, cs_36, ca_37, cs_37, ca_38, cs_38, ca_39, cs_39, ca_40, cs_40, ca_41, cs_41, ca_42, cs_42, car_20, car_21, car_22, cq11_3, cq11_4, cq3_1, cq0_0, cq0_1, if_true, if_false, Option.bind_some, cb, lt, nI_1, hs_nar2, nh4, upd_at, vau_at, ca_42_0, cs_42_0, hs, e1, b1]
      rw [decide_eq_false (by omega), if_pos (show b2 false = 0 by decide)]
    · simp (disch := first | assumption | omega | decide | exact And.intro (by omega) (by omega)) only [mck, mg_0, mp_0, mr_1, mg_2, mp_2, mr_3, mg_4, mp_4, mr_5, mr_6, mr_7, mr_8, mr_9, mg_10, mp_10, mg_11, mp_11, mg_12, mp_12, mg_13, mp_13, mg_14, mp_14, mg_15, mp_15, mg_16, mp_16, mg_17, mp_17, mg_18, mp_18, mg_19, mp_19, mg_20, mp_20, mr_21, mr_22, mr_23, mr_24, mr_25, mr_26, mr_27, mr_28, mr_29, mr_30, mr_31, mr_32, mg_33, mp_33, mr_34, mr_35, mr_36, mr_37, mr_38, mg_39, mp_39, mr_40, mr_41, mr_42, mg_43, mp_43, mr_44, mr_45, mg_46, mp_46, mr_47, mr_48, mg_49, mp_49, mg_50, mp_50, mg_51, mp_51, mr_52, mr_53, mr_54, mg_55, mp_55, mr_56, mr_57, mg_58, mp_58, mg_59, mp_59, mg_60, mp_60, mr_61, mg_62, mp_62, mr_63, mr_64, mr_65, mr_66, mr_67, mr_68, ma_1, ms_1, ma_2, ms_2, ma_3, ms_3, ma_4, ms_4, ma_5, ms_5, ma_6, ms_6, ma_7, ms_7, ma_8, ms_8, ma_9, ms_9, ma_10, ms_10, ma_11, ms_11, ma_12, ms_12, ma_13, ms_13, ma_14, ms_14, ma_15, ms_15, ma_16, ms_16, ma_17, ms_17, ma_18, ms_18, ma_19, ms_19, ma_20, ms_20, ma_21, ms_21, ma_22, ms_22, ma_23, ms_23, ma_24, ms_24, ma_25, ms_25, ma_26, ms_26, ma_27, ms_27, ma_28, ms_28, ma_29, ms_29, ma_30, ms_30, ma_31, ms_31, ma_32, ms_32, ma_33, ms_33, ma_34, ms_34, ma_35, ms_35, ma_36, ms_36, ma_37, ms_37, ma_38, ms_38, ma_39, ms_39, ma_40, ms_40, ma_41, ms_41, ma_42, ms_42, ma_43, ms_43, if_true, if_false, Option.bind_some, cb, lt, nI_1, hs_nar2, nh4, upd_at, vau_at, ma_30_18, ms_30_18, ma_31_18, ms_31_18, ma_28_0, ms_28_0, ma_28_1, ms_28_1, ma_28_2, ms_28_2, ma_28_3, ms_28_3, ma_28_4, ms_28_4, ma_42_0, ms_42_0, ma_42_1, ms_42_1, ma_42_2, ms_42_2, ma_36_0, ms_36_0, ms, if_pos cz]
  · have cz : ¬ nI (ps u).1 = 0 := nI_ne0 (by omega) (by omega)
    have c2 : (0 : Int) ≤ ((ps u).1 : Int) - 1 ∧ ((ps u).1 : Int) - 1 < (ps u).1 := by omega
    have e2 : iI (((ps u).1 : Int) - 1) = nI ((ps u).1 - 1) := by rw [iI_nI]; congr 1; omega
    have hlast : (ps u).1 - 1 < (ps u).1 := by omega
    obtain ⟨d1, d2, d3⟩ := hcp.2 _ hlast
    have hg := hC.goodP.2.2.2.2 _ hlast
    have c3 := hC.c3
    obtain ⟨Fc1, Ac1, r1, ⟨r2, r3, r4⟩, ⟨r5, r6, r7, r8⟩, r9⟩ := c_note (F := Fc) (A := Ac) Bc rc c3.1 c3.2.1 c3.2.2.2.1 c3.2.2.2.2.1 2 (nI ((ps u).2.1 ((ps u).1 - 1))) (iI ((ps u).2.2.1 ((ps u).1 - 1))) hg
    obtain ⟨Fc2, q1, q2, q3⟩ := c_drop (F := Fc1) (A := Ac1) Bc rc (PA_of (Or.inl rfl)) (hcp.eq (r4 38 (by decide)) (r9 _ (by decide)) (r9 _ (by decide)) (r9 _ (by decide))) (by omega) h6
    obtain ⟨F1, A1, ma, p1, p2, p3, p4, p5⟩ := core_copies hC
    have hsz1 := p2.sz
    have sub1 : nI (ps u).1 - 1 = nI ((ps u).1 - 1) := e1.trans e2
    have row : MPile (va_up A1 31 (upd (A1 31) 18 (nI ((ps u).1 - 1)))) 31 0 (apDrop (ps u)) := by
      have old := p2.2.2.1.1
      refine ⟨by rw [vau_at]; exact upd_at _ _ _, fun i hi => ?_⟩
      have hi2 : i < (ps u).1 - 1 := hi
      have := old.2 i (by omega)
      simp only [Nat.zero_add] at this ⊢
      rw [vau_at, upd_ne (by omega), upd_ne (by omega), upd_ne (by omega)]
      exact this
    have mc2 : MC F F1 A (va_up A1 31 (upd (A1 31) 18 (nI ((ps u).1 - 1)))) B B := p4.tr ⟨fun _ _ _ _ _ => rfl, fun c _ _ q _ => by rw [vau_ne q], fun _ _ _ => rfl⟩
    obtain ⟨F2, A3, s1, s2⟩ := rel_push (Fc2 := Fc2) (Ac2 := Ac1) hT hC mc2 row (apDrop_good hC.goodP) (by rw [q3.1 49 (by decide)]; exact r2) (by rw [q3.1 49 (by decide)]; exact r3) (fun c q q' => by rw [q3.1 c q', r4 c q]) r5 r6 r7 r8 (fun c q q' => r9 c q') q2 (Or.inr (Or.inl ⟨rfl, by show (ps u).1 = (ps u).1 - 1 + 1; omega, fun i hi => ⟨rfl, rfl, rfl⟩, rfl, rfl, rfl⟩))
    have hb := (p2.at hlast)
    obtain ⟨a1, a2, a3, a4, a5, a6, a7⟩ := hb
    have a6' : upd (A1 31) 18 (nI ((ps u).1 - 1)) ((ps u).1 - 1) = nI (pB (ps u) ((ps u).1 - 1)) := by rw [upd_ne (by omega)]; exact a6
    refine ⟨nI ((ps u).2.1 ((ps u).1 - 1)), mkC Fc2 Ac1 Bc rc, mkM F2 A3 B, ?_, ?_, s2⟩
    · simp (disch := first | assumption | omega | decide | exact And.intro (by omega) (by omega)) only [cck_0, cr0_0, cr0_1, cr0_2, cr0_3, cg0_4, cp0_4, cg0_5, cp0_5, cck_1, cg1_0, cp1_0, cr1_1, cr1_2, cr1_3, cg1_4, cp1_4, cg1_5, cp1_5, cr1_6, cr1_7, cck_2, cr2_0, cr2_1, cr2_2, cck_3, cr3_0, cr3_1, cg3_2, cp3_2, cg3_3, cp3_3, cg3_4, cp3_4, cg3_5, cp3_5, cg3_6, cp3_6, cg3_7, cp3_7, cg3_8, cp3_8, cck_4, cg4_0, cp4_0, cg4_1, cp4_1, cr4_2, cr4_3, cr4_4, cr4_5, cck_5, cg5_0, cp5_0, cr5_1, cr5_2, cr5_3, cck_6, cg6_0, cp6_0, cg6_1, cp6_1, cck_7, cg7_0, cp7_0, cg7_1, cp7_1, cr7_2, cr7_3, cr7_4, cr7_5, cr7_6, cr7_7, cr7_8, cck_8, cr8_0, cr8_1, cck_9, cr9_0, cr9_1, cr9_2, cr9_3, cg9_4, cp9_4, cck_10, cg10_0, cp10_0, cr10_1, cr10_2, cr10_3, cr10_4, cg10_5, cp10_5, cr10_6, cr10_7, cr10_8, cg10_9, cp10_9, cg10_10, cp10_10, cr10_11, cr10_12, cr10_13, cr10_14, cck_11, cr11_0, cg11_1, cp11_1, cr11_2, cr11_3, cr11_4, cr11_5, cr11_6, cr11_7, cr11_8, cr11_9, cr11_10, cr11_11, cr11_12, cr11_13, cr11_14, ca_30, cs_30, ca_31, cs_31, ca_32, cs_32, ca_33, cs_33, ca_34, cs_34, ca_35, cs_35, ca_36, cs_36, ca_37, cs_37, ca_38, cs_38, ca_39, cs_39, ca_40, cs_40, ca_41, cs_41, ca_42, cs_42, car_20, car_21, car_22, cq11_3, cq11_4, cq3_1, cq0_0, cq0_1, if_true, if_false, Option.bind_some, cb, lt, nI_1, hs_nar2, nh4, upd_at, vau_at, ca_42_0, cs_42_0, hs, e1, b1]
      rw [decide_eq_true c2, if_neg (show ¬ b2 true = 0 by decide), e2]
      simp (disch := first | assumption | omega | decide | exact And.intro (by omega) (by omega)) only [cck_0, cr0_0, cr0_1, cr0_2, cr0_3, cg0_4, cp0_4, cg0_5, cp0_5, cck_1, cg1_0, cp1_0, cr1_1, cr1_2, cr1_3, cg1_4, cp1_4, cg1_5, cp1_5, cr1_6, cr1_7, cck_2, cr2_0, cr2_1, cr2_2, cck_3, cr3_0, cr3_1, cg3_2, cp3_2, cg3_3, cp3_3, cg3_4, cp3_4, cg3_5, cp3_5, cg3_6, cp3_6, cg3_7, cp3_7, cg3_8, cp3_8, cck_4, cg4_0, cp4_0, cg4_1, cp4_1, cr4_2, cr4_3, cr4_4, cr4_5, cck_5, cg5_0, cp5_0, cr5_1, cr5_2, cr5_3, cck_6, cg6_0, cp6_0, cg6_1, cp6_1, cck_7, cg7_0, cp7_0, cg7_1, cp7_1, cr7_2, cr7_3, cr7_4, cr7_5, cr7_6, cr7_7, cr7_8, cck_8, cr8_0, cr8_1, cck_9, cr9_0, cr9_1, cr9_2, cr9_3, cg9_4, cp9_4, cck_10, cg10_0, cp10_0, cr10_1, cr10_2, cr10_3, cr10_4, cg10_5, cp10_5, cr10_6, cr10_7, cr10_8, cg10_9, cp10_9, cg10_10, cp10_10, cr10_11, cr10_12, cr10_13, cr10_14, cck_11, cr11_0, cg11_1, cp11_1, cr11_2, cr11_3, cr11_4, cr11_5, cr11_6, cr11_7, cr11_8, cr11_9, cr11_10, cr11_11, cr11_12, cr11_13, cr11_14, ca_30, cs_30, ca_31, cs_31, ca_32, cs_32, ca_33, cs_33, ca_34, cs_34, ca_35, cs_35, ca_36, cs_36, ca_37, cs_37, ca_38, cs_38, ca_39, cs_39, ca_40, cs_40, ca_41, cs_41, ca_42, cs_42, car_20, car_21, car_22, cq11_3, cq11_4, cq3_1, cq0_0, cq0_1, if_true, if_false, Option.bind_some, cb, lt, nI_1, hs_nar2, nh4, upd_at, vau_at, ca_42_0, cs_42_0, d1, d2, d3, r1, q1]
    · simp (disch := first | assumption | omega | decide | exact And.intro (by omega) (by omega)) only [mck, mg_0, mp_0, mr_1, mg_2, mp_2, mr_3, mg_4, mp_4, mr_5, mr_6, mr_7, mr_8, mr_9, mg_10, mp_10, mg_11, mp_11, mg_12, mp_12, mg_13, mp_13, mg_14, mp_14, mg_15, mp_15, mg_16, mp_16, mg_17, mp_17, mg_18, mp_18, mg_19, mp_19, mg_20, mp_20, mr_21, mr_22, mr_23, mr_24, mr_25, mr_26, mr_27, mr_28, mr_29, mr_30, mr_31, mr_32, mg_33, mp_33, mr_34, mr_35, mr_36, mr_37, mr_38, mg_39, mp_39, mr_40, mr_41, mr_42, mg_43, mp_43, mr_44, mr_45, mg_46, mp_46, mr_47, mr_48, mg_49, mp_49, mg_50, mp_50, mg_51, mp_51, mr_52, mr_53, mr_54, mg_55, mp_55, mr_56, mr_57, mg_58, mp_58, mg_59, mp_59, mg_60, mp_60, mr_61, mg_62, mp_62, mr_63, mr_64, mr_65, mr_66, mr_67, mr_68, ma_1, ms_1, ma_2, ms_2, ma_3, ms_3, ma_4, ms_4, ma_5, ms_5, ma_6, ms_6, ma_7, ms_7, ma_8, ms_8, ma_9, ms_9, ma_10, ms_10, ma_11, ms_11, ma_12, ms_12, ma_13, ms_13, ma_14, ms_14, ma_15, ms_15, ma_16, ms_16, ma_17, ms_17, ma_18, ms_18, ma_19, ms_19, ma_20, ms_20, ma_21, ms_21, ma_22, ms_22, ma_23, ms_23, ma_24, ms_24, ma_25, ms_25, ma_26, ms_26, ma_27, ms_27, ma_28, ms_28, ma_29, ms_29, ma_30, ms_30, ma_31, ms_31, ma_32, ms_32, ma_33, ms_33, ma_34, ms_34, ma_35, ms_35, ma_36, ms_36, ma_37, ms_37, ma_38, ms_38, ma_39, ms_39, ma_40, ms_40, ma_41, ms_41, ma_42, ms_42, ma_43, ms_43, if_true, if_false, Option.bind_some, cb, lt, nI_1, hs_nar2, nh4, upd_at, vau_at, ma_30_18, ms_30_18, ma_31_18, ms_31_18, ma_28_0, ms_28_0, ma_28_1, ms_28_1, ma_28_2, ms_28_2, ma_28_3, ms_28_3, ma_28_4, ms_28_4, ma_42_0, ms_42_0, ma_42_1, ms_42_1, ma_42_2, ms_42_2, ma_36_0, ms_36_0, ms, if_neg cz, p1, hsz1, sub1, s1, a6']
theorem apShift_good {nb : Nat} {P : AP} {lev : Nat} {d : Int} (h : GoodP nb P) (hd : ∀ i, lev ≤ i → i < P.1 → -999 ≤ pP P i + d ∧ pP P i + d ≤ 999) : GoodP nb (apShift P lev d) := by
  refine ⟨h.1, h.2.1, h.2.2.1, fun i hi => ?_, h.2.2.2.2⟩
  have hi2 : i < P.1 := hi
  show -999 ≤ (if lev ≤ i then pP P i + d else pP P i) ∧ (if lev ≤ i then pP P i + d else pP P i) ≤ 999
  by_cases c : lev ≤ i
  · rw [if_pos c]; exact hd i c hi2
  · rw [if_neg c]; exact h.2.2.2.1 i hi2
def mvOk (P : AP) (d : Int) (i : Nat) : Bool := decide (-999 ≤ pP P i + d ∧ pP P i + d ≤ 999)
theorem c_move {F A : Nat → Nat → Int32} {B : Nat → Nat → Int64} {r : Nat → Nat} {P : AP} (h5 : CPile F A 38 P) (h6 : P.1 ≤ 6) (hb : ∀ i, i < P.1 → -999 ≤ pP P i ∧ pP P i ≤ 999) {d : Int} (hd : in32 d) (l : Int32) : ∀ k i fuel, i + k = P.1 → k < fuel → fX11_move_b12 fuel 0 l (iI d) (nI i) (mkC F A B r) = if (fal (mvOk P d) k i).isNone then fX11_move_b50 0 l (iI d) (mkC F A B r) else some (0, mkC F A B r) := by
  have hs := h5.1
  intro k
  induction k with
  | zero =>
    intro i fuel h1 h2
    obtain ⟨fuel, rfl⟩ : ∃ q, fuel = q + 1 := ⟨fuel - 1, by omega⟩
    rw [fX11_move_b12]
    simp (disch := first | assumption | omega | decide | exact And.intro (by omega) (by omega)) only [cck_0, cr0_0, cr0_1, cr0_2, cr0_3, cg0_4, cp0_4, cg0_5, cp0_5, cck_1, cg1_0, cp1_0, cr1_1, cr1_2, cr1_3, cg1_4, cp1_4, cg1_5, cp1_5, cr1_6, cr1_7, cck_2, cr2_0, cr2_1, cr2_2, cck_3, cr3_0, cr3_1, cg3_2, cp3_2, cg3_3, cp3_3, cg3_4, cp3_4, cg3_5, cp3_5, cg3_6, cp3_6, cg3_7, cp3_7, cg3_8, cp3_8, cck_4, cg4_0, cp4_0, cg4_1, cp4_1, cr4_2, cr4_3, cr4_4, cr4_5, cck_5, cg5_0, cp5_0, cr5_1, cr5_2, cr5_3, cck_6, cg6_0, cp6_0, cg6_1, cp6_1, cck_7, cg7_0, cp7_0, cg7_1, cp7_1, cr7_2, cr7_3, cr7_4, cr7_5, cr7_6, cr7_7, cr7_8, cck_8, cr8_0, cr8_1, cck_9, cr9_0, cr9_1, cr9_2, cr9_3, cg9_4, cp9_4, cck_10, cg10_0, cp10_0, cr10_1, cr10_2, cr10_3, cr10_4, cg10_5, cp10_5, cr10_6, cr10_7, cr10_8, cg10_9, cp10_9, cg10_10, cp10_10, cr10_11, cr10_12, cr10_13, cr10_14, cck_11, cr11_0, cg11_1, cp11_1, cr11_2, cr11_3, cr11_4, cr11_5, cr11_6, cr11_7, cr11_8, cr11_9, cr11_10, cr11_11, cr11_12, cr11_13, cr11_14, ca_30, cs_30, ca_31, cs_31, ca_32, cs_32, ca_33, cs_33, ca_34, cs_34, ca_35, cs_35, ca_36, cs_36, ca_37, cs_37, ca_38, cs_38, ca_39, cs_39, ca_40, cs_40, ca_41, cs_41, ca_42, cs_42, car_20, car_21, car_22, cq11_3, cq11_4, cq3_1, cq0_0, cq0_1, if_true, if_false, Option.bind_some, cb, lt, nI_1, hs_nar2, nh4, upd_at, vau_at, ca_42_0, cs_42_0, hs]
    rw [if_pos (nI_le (by omega) (by omega))]
    rfl
  | succ k ih =>
    intro i fuel h1 h2
    obtain ⟨fuel, rfl⟩ : ∃ q, fuel = q + 1 := ⟨fuel - 1, by omega⟩
    obtain ⟨e1, e2, e3⟩ := h5.2 i (by omega)
    have e4 := hb i (by omega)
    have e5 : iI (P.2.2.1 i) = iI (pP P i) := rfl
    rw [fX11_move_b12]
    simp (disch := first | assumption | omega | decide | exact And.intro (by omega) (by omega)) only [cck_0, cr0_0, cr0_1, cr0_2, cr0_3, cg0_4, cp0_4, cg0_5, cp0_5, cck_1, cg1_0, cp1_0, cr1_1, cr1_2, cr1_3, cg1_4, cp1_4, cg1_5, cp1_5, cr1_6, cr1_7, cck_2, cr2_0, cr2_1, cr2_2, cck_3, cr3_0, cr3_1, cg3_2, cp3_2, cg3_3, cp3_3, cg3_4, cp3_4, cg3_5, cp3_5, cg3_6, cp3_6, cg3_7, cp3_7, cg3_8, cp3_8, cck_4, cg4_0, cp4_0, cg4_1, cp4_1, cr4_2, cr4_3, cr4_4, cr4_5, cck_5, cg5_0, cp5_0, cr5_1, cr5_2, cr5_3, cck_6, cg6_0, cp6_0, cg6_1, cp6_1, cck_7, cg7_0, cp7_0, cg7_1, cp7_1, cr7_2, cr7_3, cr7_4, cr7_5, cr7_6, cr7_7, cr7_8, cck_8, cr8_0, cr8_1, cck_9, cr9_0, cr9_1, cr9_2, cr9_3, cg9_4, cp9_4, cck_10, cg10_0, cp10_0, cr10_1, cr10_2, cr10_3, cr10_4, cg10_5, cp10_5, cr10_6, cr10_7, cr10_8, cg10_9, cp10_9, cg10_10, cp10_10, cr10_11, cr10_12, cr10_13, cr10_14, cck_11, cr11_0, cg11_1, cp11_1, cr11_2, cr11_3, cr11_4, cr11_5, cr11_6, cr11_7, cr11_8, cr11_9, cr11_10, cr11_11, cr11_12, cr11_13, cr11_14, ca_30, cs_30, ca_31, cs_31, ca_32, cs_32, ca_33, cs_33, ca_34, cs_34, ca_35, cs_35, ca_36, cs_36, ca_37, cs_37, ca_38, cs_38, ca_39, cs_39, ca_40, cs_40, ca_41, cs_41, ca_42, cs_42, car_20, car_21, car_22, cq11_3, cq11_4, cq3_1, cq0_0, cq0_1, if_true, if_false, Option.bind_some, cb, lt, nI_1, hs_nar2, nh4, upd_at, vau_at, ca_42_0, cs_42_0, hs]
    rw [if_neg (nI_ge (by omega) (by omega))]
    simp (disch := first | assumption | omega | decide | exact And.intro (by omega) (by omega)) only [cck_0, cr0_0, cr0_1, cr0_2, cr0_3, cg0_4, cp0_4, cg0_5, cp0_5, cck_1, cg1_0, cp1_0, cr1_1, cr1_2, cr1_3, cg1_4, cp1_4, cg1_5, cp1_5, cr1_6, cr1_7, cck_2, cr2_0, cr2_1, cr2_2, cck_3, cr3_0, cr3_1, cg3_2, cp3_2, cg3_3, cp3_3, cg3_4, cp3_4, cg3_5, cp3_5, cg3_6, cp3_6, cg3_7, cp3_7, cg3_8, cp3_8, cck_4, cg4_0, cp4_0, cg4_1, cp4_1, cr4_2, cr4_3, cr4_4, cr4_5, cck_5, cg5_0, cp5_0, cr5_1, cr5_2, cr5_3, cck_6, cg6_0, cp6_0, cg6_1, cp6_1, cck_7, cg7_0, cp7_0, cg7_1, cp7_1, cr7_2, cr7_3, cr7_4, cr7_5, cr7_6, cr7_7, cr7_8, cck_8, cr8_0, cr8_1, cck_9, cr9_0, cr9_1, cr9_2, cr9_3, cg9_4, cp9_4, cck_10, cg10_0, cp10_0, cr10_1, cr10_2, cr10_3, cr10_4, cg10_5, cp10_5, cr10_6, cr10_7, cr10_8, cg10_9, cp10_9, cg10_10, cp10_10, cr10_11, cr10_12, cr10_13, cr10_14, cck_11, cr11_0, cg11_1, cp11_1, cr11_2, cr11_3, cr11_4, cr11_5, cr11_6, cr11_7, cr11_8, cr11_9, cr11_10, cr11_11, cr11_12, cr11_13, cr11_14, ca_30, cs_30, ca_31, cs_31, ca_32, cs_32, ca_33, cs_33, ca_34, cs_34, ca_35, cs_35, ca_36, cs_36, ca_37, cs_37, ca_38, cs_38, ca_39, cs_39, ca_40, cs_40, ca_41, cs_41, ca_42, cs_42, car_20, car_21, car_22, cq11_3, cq11_4, cq3_1, cq0_0, cq0_1, if_true, if_false, Option.bind_some, cb, lt, nI_1, hs_nar2, nh4, upd_at, vau_at, ca_42_0, cs_42_0, e2]
    rw [e5, iI_jJ hd, iI_jJ ⟨by omega, by omega⟩, jJ_add]
    have hpl : ∀ x : Int, -2147483648 - 999 ≤ x ∧ x < 2147483648 + 999 → fX11_isPlace (jJ x) (mkC F A B r) = some (b2 (decide (-999 ≤ x ∧ x ≤ 999)), mkC F A B r) := by
      intro x hx
      have e1 : (-999 : Int64) = jJ (-999) := by decide
      have e2 : (999 : Int64) = jJ 999 := rfl
      unfold fX11_isPlace
      simp only [lg_cmp_lt, lg_cmp_gt]
      rw [e1, e2]
      have l1 := jJ_lt (a := x) (b := -999) ⟨by omega, by omega⟩ ⟨by decide, by decide⟩
      have l2 := jJ_lt (a := 999) (b := x) ⟨by decide, by decide⟩ ⟨by omega, by omega⟩
      by_cases c1 : x < -999
      · rw [if_pos (l1.2 c1), decide_eq_false (by omega)]; rfl
      · rw [if_neg (fun q => c1 (l1.1 q))]
        by_cases c2 : 999 < x
        · rw [if_pos (l2.2 c2), decide_eq_false (by omega)]; rfl
        · rw [if_neg (fun q => c2 (l2.1 q)), decide_eq_true (by omega)]; rfl
    rw [hpl _ (by omega)]
    simp only [Option.bind_some, fal]
    have e6 : decide (-999 ≤ pP P i + d ∧ pP P i + d ≤ 999) = mvOk P d i := rfl
    rw [e6]
    rcases Bool.eq_false_or_eq_true (mvOk P d i) with hq | hq
    · simp only [hq, if_true]
      exact ih (i + 1) fuel (by omega) (by omega)
    · simp only [hq]
      rfl
theorem m_move {F : Nat → Int32} {A : Nat → Nat → Int32} {B : Nat → Nat → Int64} {P : AP} (h5 : MPile A 31 0 P) (h6 : P.1 ≤ 6) (hb : ∀ i, i < P.1 → -2999 ≤ pP P i ∧ pP P i ≤ 2999) : ∀ k i fuel, i + k = P.1 → k < fuel → fX12_move_b35 fuel 0 (nI i) (mkM F A B) = if (fal (mvOk P 0) k i).isNone then fX12_move_b75 0 (mkM F A B) else some (0, mkM F A B) := by
  have hs := h5.1
  rw [Nat.zero_add] at hs
  have e999 : (999 : Int32) = iI 999 := rfl
  have e999' : (-999 : Int32) = iI (-999) := by decide
  intro k
  induction k with
  | zero =>
    intro i fuel h1 h2
    obtain ⟨fuel, rfl⟩ : ∃ q, fuel = q + 1 := ⟨fuel - 1, by omega⟩
    rw [fX12_move_b35]
    simp (disch := first | assumption | omega | decide | exact And.intro (by omega) (by omega)) only [mck, mg_0, mp_0, mr_1, mg_2, mp_2, mr_3, mg_4, mp_4, mr_5, mr_6, mr_7, mr_8, mr_9, mg_10, mp_10, mg_11, mp_11, mg_12, mp_12, mg_13, mp_13, mg_14, mp_14, mg_15, mp_15, mg_16, mp_16, mg_17, mp_17, mg_18, mp_18, mg_19, mp_19, mg_20, mp_20, mr_21, mr_22, mr_23, mr_24, mr_25, mr_26, mr_27, mr_28, mr_29, mr_30, mr_31, mr_32, mg_33, mp_33, mr_34, mr_35, mr_36, mr_37, mr_38, mg_39, mp_39, mr_40, mr_41, mr_42, mg_43, mp_43, mr_44, mr_45, mg_46, mp_46, mr_47, mr_48, mg_49, mp_49, mg_50, mp_50, mg_51, mp_51, mr_52, mr_53, mr_54, mg_55, mp_55, mr_56, mr_57, mg_58, mp_58, mg_59, mp_59, mg_60, mp_60, mr_61, mg_62, mp_62, mr_63, mr_64, mr_65, mr_66, mr_67, mr_68, ma_1, ms_1, ma_2, ms_2, ma_3, ms_3, ma_4, ms_4, ma_5, ms_5, ma_6, ms_6, ma_7, ms_7, ma_8, ms_8, ma_9, ms_9, ma_10, ms_10, ma_11, ms_11, ma_12, ms_12, ma_13, ms_13, ma_14, ms_14, ma_15, ms_15, ma_16, ms_16, ma_17, ms_17, ma_18, ms_18, ma_19, ms_19, ma_20, ms_20, ma_21, ms_21, ma_22, ms_22, ma_23, ms_23, ma_24, ms_24, ma_25, ms_25, ma_26, ms_26, ma_27, ms_27, ma_28, ms_28, ma_29, ms_29, ma_30, ms_30, ma_31, ms_31, ma_32, ms_32, ma_33, ms_33, ma_34, ms_34, ma_35, ms_35, ma_36, ms_36, ma_37, ms_37, ma_38, ms_38, ma_39, ms_39, ma_40, ms_40, ma_41, ms_41, ma_42, ms_42, ma_43, ms_43, if_true, if_false, Option.bind_some, cb, lt, nI_1, hs_nar2, nh4, upd_at, vau_at, ma_30_18, ms_30_18, ma_31_18, ms_31_18, ma_28_0, ms_28_0, ma_28_1, ms_28_1, ma_28_2, ms_28_2, ma_28_3, ms_28_3, ma_28_4, ms_28_4, ma_42_0, ms_42_0, ma_42_1, ms_42_1, ma_42_2, ms_42_2, ma_36_0, ms_36_0, hs]
    rw [if_pos (nI_le (by omega) (by omega))]
    rfl
  | succ k ih =>
    intro i fuel h1 h2
    obtain ⟨fuel, rfl⟩ : ∃ q, fuel = q + 1 := ⟨fuel - 1, by omega⟩
    obtain ⟨e1, e2, e3⟩ := h5.2 i (by omega)
    simp only [Nat.zero_add] at e2
    have e4 := hb i (by omega)
    have e5 : iI (P.2.2.1 i) = iI (pP P i) := rfl
    rw [fX12_move_b35]
    simp (disch := first | assumption | omega | decide | exact And.intro (by omega) (by omega)) only [mck, mg_0, mp_0, mr_1, mg_2, mp_2, mr_3, mg_4, mp_4, mr_5, mr_6, mr_7, mr_8, mr_9, mg_10, mp_10, mg_11, mp_11, mg_12, mp_12, mg_13, mp_13, mg_14, mp_14, mg_15, mp_15, mg_16, mp_16, mg_17, mp_17, mg_18, mp_18, mg_19, mp_19, mg_20, mp_20, mr_21, mr_22, mr_23, mr_24, mr_25, mr_26, mr_27, mr_28, mr_29, mr_30, mr_31, mr_32, mg_33, mp_33, mr_34, mr_35, mr_36, mr_37, mr_38, mg_39, mp_39, mr_40, mr_41, mr_42, mg_43, mp_43, mr_44, mr_45, mg_46, mp_46, mr_47, mr_48, mg_49, mp_49, mg_50, mp_50, mg_51, mp_51, mr_52, mr_53, mr_54, mg_55, mp_55, mr_56, mr_57, mg_58, mp_58, mg_59, mp_59, mg_60, mp_60, mr_61, mg_62, mp_62, mr_63, mr_64, mr_65, mr_66, mr_67, mr_68, ma_1, ms_1, ma_2, ms_2, ma_3, ms_3, ma_4, ms_4, ma_5, ms_5, ma_6, ms_6, ma_7, ms_7, ma_8, ms_8, ma_9, ms_9, ma_10, ms_10, ma_11, ms_11, ma_12, ms_12, ma_13, ms_13, ma_14, ms_14, ma_15, ms_15, ma_16, ms_16, ma_17, ms_17, ma_18, ms_18, ma_19, ms_19, ma_20, ms_20, ma_21, ms_21, ma_22, ms_22, ma_23, ms_23, ma_24, ms_24, ma_25, ms_25, ma_26, ms_26, ma_27, ms_27, ma_28, ms_28, ma_29, ms_29, ma_30, ms_30, ma_31, ms_31, ma_32, ms_32, ma_33, ms_33, ma_34, ms_34, ma_35, ms_35, ma_36, ms_36, ma_37, ms_37, ma_38, ms_38, ma_39, ms_39, ma_40, ms_40, ma_41, ms_41, ma_42, ms_42, ma_43, ms_43, if_true, if_false, Option.bind_some, cb, lt, nI_1, hs_nar2, nh4, upd_at, vau_at, ma_30_18, ms_30_18, ma_31_18, ms_31_18, ma_28_0, ms_28_0, ma_28_1, ms_28_1, ma_28_2, ms_28_2, ma_28_3, ms_28_3, ma_28_4, ms_28_4, ma_42_0, ms_42_0, ma_42_1, ms_42_1, ma_42_2, ms_42_2, ma_36_0, ms_36_0, hs]
    rw [if_neg (nI_ge (by omega) (by omega))]
    simp (disch := first | assumption | omega | decide | exact And.intro (by omega) (by omega)) only [mck, mg_0, mp_0, mr_1, mg_2, mp_2, mr_3, mg_4, mp_4, mr_5, mr_6, mr_7, mr_8, mr_9, mg_10, mp_10, mg_11, mp_11, mg_12, mp_12, mg_13, mp_13, mg_14, mp_14, mg_15, mp_15, mg_16, mp_16, mg_17, mp_17, mg_18, mp_18, mg_19, mp_19, mg_20, mp_20, mr_21, mr_22, mr_23, mr_24, mr_25, mr_26, mr_27, mr_28, mr_29, mr_30, mr_31, mr_32, mg_33, mp_33, mr_34, mr_35, mr_36, mr_37, mr_38, mg_39, mp_39, mr_40, mr_41, mr_42, mg_43, mp_43, mr_44, mr_45, mg_46, mp_46, mr_47, mr_48, mg_49, mp_49, mg_50, mp_50, mg_51, mp_51, mr_52, mr_53, mr_54, mg_55, mp_55, mr_56, mr_57, mg_58, mp_58, mg_59, mp_59, mg_60, mp_60, mr_61, mg_62, mp_62, mr_63, mr_64, mr_65, mr_66, mr_67, mr_68, ma_1, ms_1, ma_2, ms_2, ma_3, ms_3, ma_4, ms_4, ma_5, ms_5, ma_6, ms_6, ma_7, ms_7, ma_8, ms_8, ma_9, ms_9, ma_10, ms_10, ma_11, ms_11, ma_12, ms_12, ma_13, ms_13, ma_14, ms_14, ma_15, ms_15, ma_16, ms_16, ma_17, ms_17, ma_18, ms_18, ma_19, ms_19, ma_20, ms_20, ma_21, ms_21, ma_22, ms_22, ma_23, ms_23, ma_24, ms_24, ma_25, ms_25, ma_26, ms_26, ma_27, ms_27, ma_28, ms_28, ma_29, ms_29, ma_30, ms_30, ma_31, ms_31, ma_32, ms_32, ma_33, ms_33, ma_34, ms_34, ma_35, ms_35, ma_36, ms_36, ma_37, ms_37, ma_38, ms_38, ma_39, ms_39, ma_40, ms_40, ma_41, ms_41, ma_42, ms_42, ma_43, ms_43, if_true, if_false, Option.bind_some, cb, lt, nI_1, hs_nar2, nh4, upd_at, vau_at, ma_30_18, ms_30_18, ma_31_18, ms_31_18, ma_28_0, ms_28_0, ma_28_1, ms_28_1, ma_28_2, ms_28_2, ma_28_3, ms_28_3, ma_28_4, ms_28_4, ma_42_0, ms_42_0, ma_42_1, ms_42_1, ma_42_2, ms_42_2, ma_36_0, ms_36_0, m_add6, e2]
    rw [e5, e999', e999, m_in ⟨by omega, by omega⟩ ⟨by decide, by decide⟩ ⟨by decide, by decide⟩]
    simp only [Option.bind_some, fal]
    have e6 : decide (-999 ≤ pP P i ∧ pP P i ≤ 999) = mvOk P 0 i := by simp only [mvOk, Int.add_zero]
    rw [e6]
    rcases Bool.eq_false_or_eq_true (mvOk P 0 i) with hq | hq
    · simp only [hq, if_true]
      exact ih (i + 1) fuel (by omega) (by omega)
    · simp only [hq]
      rfl
theorem fal_congr {s s' : Nat → Bool} : ∀ k i, (∀ j, i ≤ j → j < i + k → s j = s' j) → fal s k i = fal s' k i
  | 0, _, _ => rfl
  | k + 1, i, h => by
    rw [fal, fal, h i (by omega) (by omega), fal_congr k (i + 1) (fun j h1 h2 => h j (by omega) (by omega))]
theorem ag_move : Ag_II Rel fX11_move fX12_move := by
  intro σc σm a by_ hR
  obtain ⟨F, A, B, Fc, Ac, Bc, rc, t, lv, T, u, w, ps, n7, sp, rfl, rfl, hT, hC⟩ := id hR
  obtain ⟨x, hx, rfl⟩ := iI_of a
  obtain ⟨d, hd, rfl⟩ := iI_of by_
  obtain ⟨b1, b2'⟩ := both_level hC hx
  have h6 := hC.goodP.1
  have hcp := hC.crow.2.2.2.1
  have hpl := hC.goodP.2.2.2.1
  have e1998 : (1998 : Int32) = iI 1998 := rfl
  have e1998' : (-1998 : Int32) = iI (-1998) := by decide
  unfold fX11_move fX12_move
  rw [cck_11 rfl, mck, b1, b2']
  simp only [cb, Option.bind_some]
  by_cases c : 0 ≤ x ∧ x < (ps u).1
  · obtain ⟨lev, hl, rfl⟩ := nat_of c
    have el : iI (lev : Int) = nI lev := rfl
    rw [decide_eq_true c, if_neg (show ¬ b2 true = 0 by decide), if_neg (show ¬ b2 true = 0 by decide), e1998', e1998, m_in hd ⟨by decide, by decide⟩ ⟨by decide, by decide⟩, el]
    simp only [Option.bind_some]
    rw [c_move hcp h6 hpl hd (nI lev) ((ps u).1 - lev) lev FU (by omega) (by unfold FU; omega)]
    by_cases cd : -1998 ≤ d ∧ d ≤ 1998
    · rw [decide_eq_true cd, if_neg (show ¬ b2 true = 0 by decide)]
      obtain ⟨F1, A1, ma, p1, p2, p3, p4, p5⟩ := core_copies hC
      obtain ⟨A2, q1, q2, q3⟩ := m_shifts (F := F1) (B := B) h6 (lev := lev) (by omega) d p2.2.2.1.1
      rw [p1]
      simp only [Option.bind_some]
      rw [q1]
      simp only [Option.bind_some]
      have hm := m_move (F := F1) (B := B) q2 h6 (fun i hi => by
        have := hpl i hi
        show -2999 ≤ (if lev ≤ i then pP (ps u) i + d else pP (ps u) i) ∧ (if lev ≤ i then pP (ps u) i + d else pP (ps u) i) ≤ 2999
        simp only [pP]
        split <;> omega) ((ps u).1 - lev) lev FU (by show lev + ((ps u).1 - lev) = (ps u).1; omega) (by unfold FU; omega)
      rw [hm]
      have mc2 : MC F F1 A A2 B B := p4.tr ⟨fun _ _ _ _ _ => rfl, fun c _ _ q _ => q3 c q, fun _ _ _ => rfl⟩
      have ef : fal (mvOk (apShift (ps u) lev d) 0) ((ps u).1 - lev) lev = fal (mvOk (ps u) d) ((ps u).1 - lev) lev := fal_congr _ _ (fun j h1 h2 => by
        have : pP (apShift (ps u) lev d) j = pP (ps u) j + d := if_pos h1
        simp only [mvOk, this, Int.add_zero])
      rw [ef]
      cases hq : fal (mvOk (ps u) d) ((ps u).1 - lev) lev with
      | some j =>
        exact ⟨0, _, _, rfl, rfl, rel_look hT hC mc2 CS.rf⟩
      | none =>
        have hok : ∀ i, lev ≤ i → i < (ps u).1 → -999 ≤ pP (ps u) i + d ∧ pP (ps u) i + d ≤ 999 := fun i h1 h2 => of_decide_eq_true (fal_n _ _ hq i h1 (by omega))
        have good := apShift_good (lev := lev) hC.goodP hok
        obtain ⟨Ac1, z1, z2, z3⟩ := c_shift (F := Fc) Bc rc (PA_of (Or.inl rfl)) h6 (lev := lev) (by omega) d hcp
        have c3 := hC.c3
        obtain ⟨Fc2, Ac2, r1, ⟨r2, r3, r4⟩, ⟨r5, r6, r7, r8⟩, r9⟩ := c_note (F := Fc) (A := Ac1) Bc rc c3.1 c3.2.1 c3.2.2.2.1 c3.2.2.2.2.1 3 (nI lev) (iI d) (g := 0) (Or.inl rfl)
        obtain ⟨F2, A3, s1, s2⟩ := rel_push (Fc2 := Fc2) (Ac2 := Ac2) hT hC mc2 q2 good r2 r3 (fun c q q' => r4 c q) (by rw [r5, z3.2 50 (by decide) (by decide) (by decide)]) (by rw [r6, z3.2 51 (by decide) (by decide) (by decide)]) (by rw [r7, z3.2 52 (by decide) (by decide) (by decide)]) (by rw [r8, z3.2 53 (by decide) (by decide) (by decide)]) (fun c q q' => by rw [r9 c q', z3.2 c (by omega) (by omega) (by omega)]) (z2.eq (r4 38 (by decide)) (r9 _ (by decide)) (r9 _ (by decide)) (r9 _ (by decide))) (Or.inr (Or.inr ⟨rfl, rfl, lev, d, rfl, rfl, hl, cd.1, cd.2, fun i hi => ⟨rfl, by
          show (if lev ≤ i then pP (ps u) i + d else pP (ps u) i) = pP (ps u) i + (if lev ≤ i then d else 0)
          split <;> omega, rfl⟩⟩))
        refine ⟨1, mkC Fc2 Ac2 Bc rc, mkM F2 A3 B, ?_, ?_, s2⟩
        · show fX11_move_b50 0 (nI lev) (iI d) (mkC Fc Ac Bc rc) = _
          unfold fX11_move_b50
          simp (disch := first | assumption | omega | decide | exact And.intro (by omega) (by omega)) only [cck_0, cr0_0, cr0_1, cr0_2, cr0_3, cg0_4, cp0_4, cg0_5, cp0_5, cck_1, cg1_0, cp1_0, cr1_1, cr1_2, cr1_3, cg1_4, cp1_4, cg1_5, cp1_5, cr1_6, cr1_7, cck_2, cr2_0, cr2_1, cr2_2, cck_3, cr3_0, cr3_1, cg3_2, cp3_2, cg3_3, cp3_3, cg3_4, cp3_4, cg3_5, cp3_5, cg3_6, cp3_6, cg3_7, cp3_7, cg3_8, cp3_8, cck_4, cg4_0, cp4_0, cg4_1, cp4_1, cr4_2, cr4_3, cr4_4, cr4_5, cck_5, cg5_0, cp5_0, cr5_1, cr5_2, cr5_3, cck_6, cg6_0, cp6_0, cg6_1, cp6_1, cck_7, cg7_0, cp7_0, cg7_1, cp7_1, cr7_2, cr7_3, cr7_4, cr7_5, cr7_6, cr7_7, cr7_8, cck_8, cr8_0, cr8_1, cck_9, cr9_0, cr9_1, cr9_2, cr9_3, cg9_4, cp9_4, cck_10, cg10_0, cp10_0, cr10_1, cr10_2, cr10_3, cr10_4, cg10_5, cp10_5, cr10_6, cr10_7, cr10_8, cg10_9, cp10_9, cg10_10, cp10_10, cr10_11, cr10_12, cr10_13, cr10_14, cck_11, cr11_0, cg11_1, cp11_1, cr11_2, cr11_3, cr11_4, cr11_5, cr11_6, cr11_7, cr11_8, cr11_9, cr11_10, cr11_11, cr11_12, cr11_13, cr11_14, ca_30, cs_30, ca_31, cs_31, ca_32, cs_32, ca_33, cs_33, ca_34, cs_34, ca_35, cs_35, ca_36, cs_36, ca_37, cs_37, ca_38, cs_38, ca_39, cs_39, ca_40, cs_40, ca_41, cs_41, ca_42, cs_42, car_20, car_21, car_22, cq11_3, cq11_4, cq3_1, cq0_0, cq0_1, if_true, if_false, Option.bind_some, cb, lt, nI_1, hs_nar2, nh4, upd_at, vau_at, ca_42_0, cs_42_0, z1, r1]
        · show fX12_move_b75 0 (mkM F1 A2 B) = _
          unfold fX12_move_b75
          simp (disch := first | assumption | omega | decide | exact And.intro (by omega) (by omega)) only [mck, mg_0, mp_0, mr_1, mg_2, mp_2, mr_3, mg_4, mp_4, mr_5, mr_6, mr_7, mr_8, mr_9, mg_10, mp_10, mg_11, mp_11, mg_12, mp_12, mg_13, mp_13, mg_14, mp_14, mg_15, mp_15, mg_16, mp_16, mg_17, mp_17, mg_18, mp_18, mg_19, mp_19, mg_20, mp_20, mr_21, mr_22, mr_23, mr_24, mr_25, mr_26, mr_27, mr_28, mr_29, mr_30, mr_31, mr_32, mg_33, mp_33, mr_34, mr_35, mr_36, mr_37, mr_38, mg_39, mp_39, mr_40, mr_41, mr_42, mg_43, mp_43, mr_44, mr_45, mg_46, mp_46, mr_47, mr_48, mg_49, mp_49, mg_50, mp_50, mg_51, mp_51, mr_52, mr_53, mr_54, mg_55, mp_55, mr_56, mr_57, mg_58, mp_58, mg_59, mp_59, mg_60, mp_60, mr_61, mg_62, mp_62, mr_63, mr_64, mr_65, mr_66, mr_67, mr_68, ma_1, ms_1, ma_2, ms_2, ma_3, ms_3, ma_4, ms_4, ma_5, ms_5, ma_6, ms_6, ma_7, ms_7, ma_8, ms_8, ma_9, ms_9, ma_10, ms_10, ma_11, ms_11, ma_12, ms_12, ma_13, ms_13, ma_14, ms_14, ma_15, ms_15, ma_16, ms_16, ma_17, ms_17, ma_18, ms_18, ma_19, ms_19, ma_20, ms_20, ma_21, ms_21, ma_22, ms_22, ma_23, ms_23, ma_24, ms_24, ma_25, ms_25, ma_26, ms_26, ma_27, ms_27, ma_28, ms_28, ma_29, ms_29, ma_30, ms_30, ma_31, ms_31, ma_32, ms_32, ma_33, ms_33, ma_34, ms_34, ma_35, ms_35, ma_36, ms_36, ma_37, ms_37, ma_38, ms_38, ma_39, ms_39, ma_40, ms_40, ma_41, ms_41, ma_42, ms_42, ma_43, ms_43, if_true, if_false, Option.bind_some, cb, lt, nI_1, hs_nar2, nh4, upd_at, vau_at, ma_30_18, ms_30_18, ma_31_18, ms_31_18, ma_28_0, ms_28_0, ma_28_1, ms_28_1, ma_28_2, ms_28_2, ma_28_3, ms_28_3, ma_28_4, ms_28_4, ma_42_0, ms_42_0, ma_42_1, ms_42_1, ma_42_2, ms_42_2, ma_36_0, ms_36_0, s1]
    · rw [decide_eq_false cd, if_pos (show b2 false = 0 by decide)]
      have hbad : mvOk (ps u) d lev = false := decide_eq_false (by
        have := hpl lev hl
        simp only [pP]
        omega)
      have : (fal (mvOk (ps u) d) ((ps u).1 - lev) lev).isNone = false := by
        rw [show (ps u).1 - lev = ((ps u).1 - lev - 1) + 1 by omega, fal, hbad]
        rfl
      rw [this]
      exact ⟨_, _, _, rfl, rfl, hR⟩
  · rw [decide_eq_false c, if_pos (show b2 false = 0 by decide), if_pos (show b2 false = 0 by decide)]
    exact ⟨_, _, _, rfl, rfl, hR⟩
