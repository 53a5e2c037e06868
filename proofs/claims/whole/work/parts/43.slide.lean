/-! ===== slides, pushed ===== -/
theorem lt_e {α β : Type} (e : α) (K : α → Option β) : lt e K = K e := rfl
theorem cb_e {α β : Type} (f : Option (α × Sto)) (K : α → Sto → Option β) : cb f K = f.bind (fun p => K p.1 p.2) := rfl
def CT (t : Nat) (F F' A A' : Nat → Nat → Int32) (r r' : Nat → Nat) : Prop := (∀ c, ¬ c = 42 → F' c = F c) ∧ (∀ c, ¬ (43 ≤ c ∧ c ≤ 45) → ¬ c = 47 → ¬ c = 48 → ¬ c = t + 7 → ¬ c = 192 → A' c = A c) ∧ ∀ k, ¬ k = 3 → ¬ k = 4 → r' k = r k
theorem CT.rf {t : Nat} {F A : Nat → Nat → Int32} {r : Nat → Nat} : CT t F F A A r r := ⟨fun _ _ => rfl, fun _ _ _ _ _ _ => rfl, fun _ _ _ => rfl⟩
theorem CT.tr {t : Nat} {F F1 F2 A A1 A2 : Nat → Nat → Int32} {r r1 r2 : Nat → Nat} (h : CT t F F1 A A1 r r1) (g : CT t F1 F2 A1 A2 r1 r2) : CT t F F2 A A2 r r2 :=
  ⟨fun c h1 => (g.1 c h1).trans (h.1 c h1), fun c h1 h2 h3 h4 h5 => (g.2.1 c h1 h2 h3 h4 h5).trans (h.2.1 c h1 h2 h3 h4 h5), fun k h1 h2 => (g.2.2 k h1 h2).trans (h.2.2 k h1 h2)⟩
theorem CT.eq {t : Nat} {F F' A A' : Nat → Nat → Int32} {B : Nat → Nat → Int64} {r r' : Nat → Nat} (h : CT t F F' A A' r r') (ht : t = 7 ∨ t = 22) : CEq t F F' A A' B B r r' :=
  ⟨⟨by rw [h.1 37 (by decide)], by rw [h.1 69 (by decide)], fun c hc => h.1 c (by unfold KF at hc; omega)⟩, fun c hc => h.2.1 c (by unfold KA at hc; omega) (by unfold KA at hc; omega) (by unfold KA at hc; omega) (by unfold KA at hc; omega) (by unfold KA at hc; omega), rfl, h.2.2 0 (by decide) (by decide), h.2.2 1 (by decide) (by decide)⟩
theorem CS.ct {t : Nat} {F A A' : Nat → Nat → Int32} {r r' : Nat → Nat} (h : CS t A A' r r') : CT t F F A A' r r' := ⟨fun _ _ => rfl, fun c _ h2 h3 h4 _ => h.1 c h2 h3 h4, h.2⟩
theorem OnlyP.ct {t : Nat} {F F' A A' : Nat → Nat → Int32} {r : Nat → Nat} (h : OnlyP 42 F F' A A') : CT t F F' A A' r r := ⟨h.1, fun c h1 _ _ _ _ => h.2 c (by omega) (by omega) (by omega), fun _ _ _ => rfl⟩
/-- scratch of the model, the table of ways too -/
def MD (F F' : Nat → Int32) (A A' : Nat → Nat → Int32) (B B' : Nat → Nat → Int64) : Prop := (∀ k, ¬ k = 46 → ¬ k = 49 → ¬ k = 50 → ¬ k = 51 → F' k = F k) ∧ (∀ c, ¬ c = 28 → ¬ c = 29 → ¬ c = 31 → ¬ c = 32 → ¬ c = 36 → A' c = A c) ∧ ∀ c, ¬ c = 33 → ¬ c = 34 → B' c = B c
section ST5
variable {F F' : Nat → Int32} {A A' : Nat → Nat → Int32} {B B' : Nat → Nat → Int64} {Fc Fc' Ac Ac' : Nat → Nat → Int32} {Bc Bc' : Nat → Nat → Int64} {rc rc' : Nat → Nat} {t lv : Nat} {T : TD} {u w : Nat} {ps : Nat → AP} {n7 : Nat} {sp : Nat → AP}
theorem MC.md (h : MC F F' A A' B B') : MD F F' A A' B B' := ⟨h.1, fun c h1 h2 h3 h4 _ => h.2.1 c h1 h2 h3 h4, h.2.2⟩
theorem MD.tr {F1 F2 : Nat → Int32} {A1 A2 : Nat → Nat → Int32} {B1 B2 : Nat → Nat → Int64} (h : MD F F1 A A1 B B1) (g : MD F1 F2 A1 A2 B1 B2) : MD F F2 A A2 B B2 :=
  ⟨fun k h1 h2 h3 h4 => (g.1 k h1 h2 h3 h4).trans (h.1 k h1 h2 h3 h4), fun c h1 h2 h3 h4 h5 => (g.2.1 c h1 h2 h3 h4 h5).trans (h.2.1 c h1 h2 h3 h4 h5), fun c h1 h2 => (g.2.2 c h1 h2).trans (h.2.2 c h1 h2)⟩
theorem MD.rf : MD F F A A B B := MC.rf.md
theorem MD.eq (h : MD F F' A A' B B') : MEq F F' A A' B B' :=
  ⟨⟨h.1 _ (by decide) (by decide) (by decide) (by decide), h.1 _ (by decide) (by decide) (by decide) (by decide), h.1 _ (by decide) (by decide) (by decide) (by decide), h.1 _ (by decide) (by decide) (by decide) (by decide)⟩, fun c hc => h.2.1 c (by unfold KM at hc; omega) (by unfold KM at hc; omega) (by unfold KM at hc; omega) (by unfold KM at hc; omega) (by unfold KM at hc; omega), h.2.2 7 (by decide) (by decide)⟩
theorem rel_try (hT : Tape F A Fc Ac) (hC : Core F A B Fc Ac Bc rc t lv T u w ps n7 sp) (hm : MD F F' A A' B B') (hc : CT t Fc Fc' Ac Ac' rc rc') : Rel (mkC Fc' Ac' Bc rc') (mkM F' A' B') :=
  rel_mk hT hC hm.eq (hc.eq hC.t7) (hm.1 2 (by decide) (by decide) (by decide) (by decide)) (hm.2.1 1 (by decide) (by decide) (by decide) (by decide) (by decide)) (by rw [hc.1 0 (by decide)]) (hc.2.1 1 (by decide) (by decide) (by decide) (by have := hC.t7; omega) (by decide))
theorem MRow.row {tr : Nat → Int} {P Q : AP} (h : MRow F A lv T tr P) (hA : ∀ c, ¬ c = 31 → A' c = A c) (hq : MPile A' 31 0 Q) (hb : BigP (tNb T) Q) : MRow F A' lv T tr Q :=
  ⟨h.1, ⟨h.2.1.1, h.2.1.2.eq (fun c hc => hA c (by unfold KM at hc; omega))⟩, ⟨hq, hb⟩, h.2.2.2.1, fun b hb => by rw [hA 32 (by decide)]; exact h.2.2.2.2 b hb⟩
theorem CRow.row {h : Nat} {P Q : AP} (q : CRow Fc Ac t T h P) (ho : OnlyP 42 Fc Fc' Ac Ac') (hq : CPile Fc' Ac' 42 Q) (hb : BigP (tNb T) Q) : CRow Fc' Ac' t T 42 Q := by
  have t7 := q.1
  exact ⟨q.1, Or.inr rfl, ⟨q.2.2.1.1, q.2.2.1.2.eq (ho.1 t (by omega)) (fun c q1 q2 q3 => ho.2 c (by omega) (by omega) (by omega))⟩, hq, hb⟩
end ST5
/-- places between L and U -/
def PB (nb : Nat) (L U : Int) (P : AP) : Prop := P.1 ≤ 6 ∧ (∀ i, i < P.1 → pB P i < nb) ∧ (∀ i j, i < P.1 → j < P.1 → pB P i = pB P j → i = j) ∧ (∀ i, i < P.1 → L ≤ pP P i ∧ pP P i ≤ U) ∧ ∀ i, i < P.1 → pG P i = 0 ∨ pG P i = 1
theorem PB.big {nb : Nat} {L U : Int} {P : AP} (h : PB nb L U P) (hL : -2199 ≤ L) (hU : U ≤ 2199) : BigP nb P := ⟨h.1, h.2.1, h.2.2.1, fun i hi => by have := h.2.2.2.1 i hi; omega, h.2.2.2.2⟩
theorem PB.mono {nb : Nat} {L U L' U' : Int} {P : AP} (h : PB nb L U P) (hL : L' ≤ L) (hU : U ≤ U') : PB nb L' U' P := ⟨h.1, h.2.1, h.2.2.1, fun i hi => by have := h.2.2.2.1 i hi; omega, h.2.2.2.2⟩
theorem GoodP.pb {nb : Nat} {P : AP} (h : GoodP nb P) : PB nb (-999) 999 P := h
theorem PB.shift {nb : Nat} {L U : Int} {P : AP} {lev : Nat} {d : Int} (h : PB nb L U P) (hd : d = 1 ∨ d = -1) : PB nb (L - 1) (U + 1) (apShift P lev d) := by
  refine ⟨h.1, h.2.1, h.2.2.1, fun i hi => ?_, h.2.2.2.2⟩
  have h1 := h.2.2.2.1 i hi
  show L - 1 ≤ (if lev ≤ i then pP P i + d else pP P i) ∧ (if lev ≤ i then pP P i + d else pP P i) ≤ U + 1
  split <;> omega
theorem PB.up {nb : Nat} {L U : Int} {P : AP} {lev : Nat} (h : PB nb L U P) : PB nb L (U + 1) (apShift P lev 1) := by
  refine ⟨h.1, h.2.1, h.2.2.1, fun i hi => ?_, h.2.2.2.2⟩
  have h1 := h.2.2.2.1 i hi
  show L ≤ (if lev ≤ i then pP P i + 1 else pP P i) ∧ (if lev ≤ i then pP P i + 1 else pP P i) ≤ U + 1
  split <;> omega
theorem PB.updown {nb : Nat} {L U : Int} {P : AP} {lev : Nat} (h : PB nb L U P) : PB nb L U (apShift (apShift P lev 1) lev (-1)) := by
  refine ⟨h.1, h.2.1, h.2.2.1, fun i hi => ?_, h.2.2.2.2⟩
  have h1 := h.2.2.2.1 i hi
  show L ≤ (if lev ≤ i then (if lev ≤ i then pP P i + 1 else pP P i) + -1 else (if lev ≤ i then pP P i + 1 else pP P i)) ∧ (if lev ≤ i then (if lev ≤ i then pP P i + 1 else pP P i) + -1 else (if lev ≤ i then pP P i + 1 else pP P i)) ≤ U
  split <;> omega
theorem rF_lt {s : Nat → Bool} {n : Nat} (hn : n ≤ 6) : (rF (-2) (fal s n 0) < 0) ↔ (fal s n 0).isNone = true := by
  cases hq : fal s n 0 with
  | none => exact ⟨fun _ => rfl, fun _ => by decide⟩
  | some j =>
    have := fal_b n 0 j hq
    exact ⟨fun q => absurd q (nI_pos (by omega)), fun q => by cases q⟩
def slS (T : TD) (lev : Nat) (d : Int) : Nat → AP → Nat → Nat
  | 0, _, n => n
  | k + 1, P, n => if stAll T (apShift P lev d) then slS T lev d k (apShift P lev d) (n + 1) else n
theorem m_slides {lv : Nat} {T : TD} {lev : Nat} {d : Int} (hd : d = 1 ∨ d = -1) {ma : Int} : ∀ (k n fuel : Nat) (P : AP), n + k = 200 → k < fuel → PB (tNb T) (-999 - n) (999 + n) P → lev < P.1 → ∀ {F : Nat → Int32} {A : Nat → Nat → Int32} {B : Nat → Nat → Int64}, MRow F A lv T tr0 P → More F (-1) 0 ma → ∃ F' A' B', fX12_slides_b40 fuel 0 (nI lev) (iI d) (nI n) (mkM F A B) = some (iI d * nI (slS T lev d k P n), mkM F' A' B') ∧ MC F F' A A' B B' := by
  intro k
  induction k with
  | zero =>
    intro n fuel P h1 h2 hP hl F A B hR hM
    obtain ⟨fuel, rfl⟩ : ∃ q, fuel = q + 1 := ⟨fuel - 1, by omega⟩
    have : n = 200 := by omega
    subst this
    rw [fX12_slides_b40, if_pos (by decide)]
    exact ⟨_, _, _, rfl, MC.rf⟩
  | succ k ih =>
    intro n fuel P h1 h2 hP hl F A B hR hM
    obtain ⟨fuel, rfl⟩ : ∃ q, fuel = q + 1 := ⟨fuel - 1, by omega⟩
    have h6 := hP.1
    rw [fX12_slides_b40, if_neg (show ¬ (200 : Int32) ≤ nI n from nI_ge (b := 200) (by omega) (by decide))]
    obtain ⟨A1, q1, q2, q3⟩ := m_shifts (F := F) (B := B) h6 (lev := lev) (by omega) d hR.2.2.1.1
    have hP1 := hP.shift (lev := lev) hd
    have hR1 := hR.row q3 q2 (hP1.big (by omega) (by omega))
    obtain ⟨F2, A2, B2, r1, r2, r3⟩ := m_tipsAt B hR1 hM
    rw [stands_eq] at r1
    rw [q1]
    simp -implicitDefEqProofs (disch := first | assumption | omega | decide | exact And.intro (by omega) (by omega)) only [mck, mg_0, mp_0, mr_1, mg_2, mp_2, mr_3, mg_4, mp_4, mr_5, mr_6, mr_7, mr_8, mr_9, mg_10, mp_10, mg_11, mp_11, mg_12, mp_12, mg_13, mp_13, mg_14, mp_14, mg_15, mp_15, mg_16, mp_16, mg_17, mp_17, mg_18, mp_18, mg_19, mp_19, mg_20, mp_20, mr_21, mr_22, mr_23, mr_24, mr_25, mr_26, mr_27, mr_28, mr_29, mr_30, mr_31, mr_32, mg_33, mp_33, mr_34, mr_35, mr_36, mr_37, mr_38, mg_39, mp_39, mr_40, mr_41, mr_42, mg_43, mp_43, mr_44, mr_45, mg_46, mp_46, mr_47, mr_48, mg_49, mp_49, mg_50, mp_50, mg_51, mp_51, mr_52, mr_53, mr_54, mg_55, mp_55, mr_56, mr_57, mg_58, mp_58, mg_59, mp_59, mg_60, mp_60, mr_61, mg_62, mp_62, mr_63, mr_64, mr_65, mr_66, mr_67, mr_68, ma_1, ms_1, ma_2, ms_2, ma_3, ms_3, ma_4, ms_4, ma_5, ms_5, ma_6, ms_6, ma_7, ms_7, ma_8, ms_8, ma_9, ms_9, ma_10, ms_10, ma_11, ms_11, ma_12, ms_12, ma_13, ms_13, ma_14, ms_14, ma_15, ms_15, ma_16, ms_16, ma_17, ms_17, ma_18, ms_18, ma_19, ms_19, ma_20, ms_20, ma_21, ms_21, ma_22, ms_22, ma_23, ms_23, ma_24, ms_24, ma_25, ms_25, ma_26, ms_26, ma_27, ms_27, ma_28, ms_28, ma_29, ms_29, ma_30, ms_30, ma_31, ms_31, ma_32, ms_32, ma_33, ms_33, ma_34, ms_34, ma_35, ms_35, ma_36, ms_36, ma_37, ms_37, ma_38, ms_38, ma_39, ms_39, ma_40, ms_40, ma_41, ms_41, ma_42, ms_42, ma_43, ms_43, if_true, if_false, Option.bind_some, cb_e, lt_e, nI_1, hs_nar2, nh4, upd_at, vau_at, ma_30_18, ms_30_18, ma_31_18, ms_31_18, ma_28_0, ms_28_0, ma_28_1, ms_28_1, ma_28_2, ms_28_2, ma_28_3, ms_28_3, ma_28_4, ms_28_4, ma_42_0, ms_42_0, ma_42_1, ms_42_1, ma_42_2, ms_42_2, ma_36_0, ms_36_0, r1]
    have mc : MC F F2 A A2 B B2 := MC.tr (⟨fun _ _ _ _ _ => rfl, fun c _ _ h3 _ => q3 c h3, fun _ _ _ => rfl⟩ : MC F F A A1 B B) r2.mc
    have e := rF_lt (s := st0 T (apShift P lev d)) (n := (apShift P lev d).1) h6
    rw [slS]
    unfold stAll
    by_cases c : (fal (st0 T (apShift P lev d)) (apShift P lev d).1 0).isNone = true
    · rw [if_pos (e.2 c), if_pos c]
      obtain ⟨F3, A3, B3, s1, s2⟩ := ih (n + 1) fuel (apShift P lev d) (by omega) (by omega) (hP1.mono (by omega) (by omega)) hl (hR1.ms r2) (hM.ms r2)
      exact ⟨F3, A3, B3, s1, mc.tr s2⟩
    · rw [if_neg (fun q => c (e.1 q)), if_neg c]
      exact ⟨_, _, _, rfl, mc⟩
theorem c_slides {t : Nat} {T : TD} {lev : Nat} {d : Int} (hd : d = 1 ∨ d = -1) {B : Nat → Nat → Int64} : ∀ (k n fuel : Nat) (P : AP), n + k = 200 → k < fuel → PB (tNb T) (-999 - n) (999 + n) P → lev < P.1 → ∀ {F A : Nat → Nat → Int32} {r : Nat → Nat}, CRow F A t T 42 P → r 0 = t → ∃ F' A' r', fX11_slides_b58 fuel 0 (nI lev) (iI d) (nI (n + 1)) (mkC F A B r) = some (iI d * nI (slS T lev d k P n), mkC F' A' B r') ∧ CT t F F' A A' r r' := by
  intro k
  induction k with
  | zero =>
    intro n fuel P h1 h2 hP hl F A r hR hr
    obtain ⟨fuel, rfl⟩ : ∃ q, fuel = q + 1 := ⟨fuel - 1, by omega⟩
    have : n = 200 := by omega
    subst this
    rw [fX11_slides_b58, if_pos (by decide)]
    exact ⟨_, _, _, rfl, CT.rf⟩
  | succ k ih =>
    intro n fuel P h1 h2 hP hl F A r hR hr
    obtain ⟨fuel, rfl⟩ : ∃ q, fuel = q + 1 := ⟨fuel - 1, by omega⟩
    have h6 := hP.1
    have t7 := hR.1
    rw [fX11_slides_b58, if_neg (show ¬ (200 : Int32) < nI (n + 1) from nI_nlt (a := 200) (b := n + 1) (by omega) (by decide))]
    obtain ⟨A1, q1, q2, q3⟩ := c_shift (F := F) B r (PA_of (Or.inr rfl)) h6 (lev := lev) (by omega) d hR.2.2.2.1
    have hP1 := hP.shift (lev := lev) hd
    have hR1 := hR.row q3 q2 (hP1.big (by omega) (by omega))
    obtain ⟨A2, r2, s1, s2⟩ := c_allStand B r hR1
    have sub1 : nI (n + 1) - 1 = nI n := nI_pred _
    simp -implicitDefEqProofs (disch := first | assumption | omega | decide | exact And.intro (by omega) (by omega)) only [cck_0, cr0_0, cr0_1, cr0_2, cr0_3, cg0_4, cp0_4, cg0_5, cp0_5, cck_1, cg1_0, cp1_0, cr1_1, cr1_2, cr1_3, cg1_4, cp1_4, cg1_5, cp1_5, cr1_6, cr1_7, cck_2, cr2_0, cr2_1, cr2_2, cck_3, cr3_0, cr3_1, cg3_2, cp3_2, cg3_3, cp3_3, cg3_4, cp3_4, cg3_5, cp3_5, cg3_6, cp3_6, cg3_7, cp3_7, cg3_8, cp3_8, cck_4, cg4_0, cp4_0, cg4_1, cp4_1, cr4_2, cr4_3, cr4_4, cr4_5, cck_5, cg5_0, cp5_0, cr5_1, cr5_2, cr5_3, cck_6, cg6_0, cp6_0, cg6_1, cp6_1, cck_7, cg7_0, cp7_0, cg7_1, cp7_1, cr7_2, cr7_3, cr7_4, cr7_5, cr7_6, cr7_7, cr7_8, cck_8, cr8_0, cr8_1, cck_9, cr9_0, cr9_1, cr9_2, cr9_3, cg9_4, cp9_4, cck_10, cg10_0, cp10_0, cr10_1, cr10_2, cr10_3, cr10_4, cg10_5, cp10_5, cr10_6, cr10_7, cr10_8, cg10_9, cp10_9, cg10_10, cp10_10, cr10_11, cr10_12, cr10_13, cr10_14, cck_11, cr11_0, cg11_1, cp11_1, cr11_2, cr11_3, cr11_4, cr11_5, cr11_6, cr11_7, cr11_8, cr11_9, cr11_10, cr11_11, cr11_12, cr11_13, cr11_14, ca_30, cs_30, ca_31, cs_31, ca_32, cs_32, ca_33, cs_33, ca_34, cs_34, ca_35, cs_35, ca_36, cs_36, ca_37, cs_37, ca_38, cs_38, ca_39, cs_39, ca_40, cs_40, ca_41, cs_41, ca_42, cs_42, car_20, car_21, car_22, cq11_3, cq11_4, cq3_1, cq0_0, cq0_1, if_true, if_false, Option.bind_some, cb_e, lt_e, nI_1, hs_nar2, nh4, upd_at, vau_at, ca_42_0, cs_42_0, q1, hr, s1, sub1]
    have ct : CT t F F A A2 r r2 := q3.ct.tr s2.ct
    rw [slS]
    rcases Bool.eq_false_or_eq_true (stAll T (apShift P lev d)) with c | c
    · simp only [c, if_true]
      rw [if_neg (show ¬ b2 true = 0 by decide)]
      obtain ⟨F3, A3, r3, z1, z2⟩ := ih (n + 1) fuel (apShift P lev d) (by omega) (by omega) (hP1.mono (by omega) (by omega)) hl (hR1.cs s2) ((s2.2 0 (by decide) (by decide)).trans hr)
      exact ⟨F3, A3, r3, z1, ct.tr z2⟩
    · simp only [c]
      rw [if_pos (show b2 false = 0 by decide)]
      exact ⟨_, _, _, rfl, ct⟩
theorem ag_slides : Ag_IB Rel fX11_slides fX12_slides := by
  intro σc σm a mo hmo hR
  obtain ⟨F, A, B, Fc, Ac, Bc, rc, t, lv, T, u, w, ps, n7, sp, rfl, rfl, hT, hC⟩ := id hR
  obtain ⟨x, hx, rfl⟩ := iI_of a
  obtain ⟨b1, b2'⟩ := both_level hC hx
  have h6 := hC.goodP.1
  have hr0 := hC.1.2.1
  unfold fX11_slides fX12_slides
  rw [cck_11 rfl, mck, b1, b2']
  simp only [cb, Option.bind_some]
  by_cases c : 0 ≤ x ∧ x < (ps u).1
  · obtain ⟨lev, hl, rfl⟩ := nat_of c
    have el : iI (lev : Int) = nI lev := rfl
    rw [decide_eq_true c, if_neg (show ¬ b2 true = 0 by decide), if_neg (show ¬ b2 true = 0 by decide), el]
    obtain ⟨F1, A1, ma, p1, p2, p3, p4, p5⟩ := core_copies hC
    obtain ⟨F2, A2, B2, q1, q2, q3⟩ := m_tipsAt B p2 p3
    rw [stands_eq] at q1
    obtain ⟨Fc1, Ac1, s1, s2, s3⟩ := c_copyFrom (F := Fc) (A := Ac) Bc rc (PA_of (Or.inr rfl)) (PA_of (Or.inl rfl)) (Or.inr (by decide)) hC.crow.2.2.2.1 h6 (hC.goodP.lt6 hC.2.1.1) hC.goodP.2.2.2.2
    have hR1 : CRow Fc1 Ac1 t T 42 (ps u) := hC.crow.row s3 s2 hC.goodP.big
    obtain ⟨A3, r3, z1, z2⟩ := c_allStand Bc rc hR1
    have ct : CT t Fc Fc1 Ac A3 rc r3 := s3.ct.tr z2.ct
    have mc := p4.tr q2.mc
    rw [p1]
    simp only [Option.bind_some, q1]
    simp -implicitDefEqProofs (disch := first | assumption | omega | decide | exact And.intro (by omega) (by omega)) only [cck_0, cr0_0, cr0_1, cr0_2, cr0_3, cg0_4, cp0_4, cg0_5, cp0_5, cck_1, cg1_0, cp1_0, cr1_1, cr1_2, cr1_3, cg1_4, cp1_4, cg1_5, cp1_5, cr1_6, cr1_7, cck_2, cr2_0, cr2_1, cr2_2, cck_3, cr3_0, cr3_1, cg3_2, cp3_2, cg3_3, cp3_3, cg3_4, cp3_4, cg3_5, cp3_5, cg3_6, cp3_6, cg3_7, cp3_7, cg3_8, cp3_8, cck_4, cg4_0, cp4_0, cg4_1, cp4_1, cr4_2, cr4_3, cr4_4, cr4_5, cck_5, cg5_0, cp5_0, cr5_1, cr5_2, cr5_3, cck_6, cg6_0, cp6_0, cg6_1, cp6_1, cck_7, cg7_0, cp7_0, cg7_1, cp7_1, cr7_2, cr7_3, cr7_4, cr7_5, cr7_6, cr7_7, cr7_8, cck_8, cr8_0, cr8_1, cck_9, cr9_0, cr9_1, cr9_2, cr9_3, cg9_4, cp9_4, cck_10, cg10_0, cp10_0, cr10_1, cr10_2, cr10_3, cr10_4, cg10_5, cp10_5, cr10_6, cr10_7, cr10_8, cg10_9, cp10_9, cg10_10, cp10_10, cr10_11, cr10_12, cr10_13, cr10_14, cck_11, cr11_0, cg11_1, cp11_1, cr11_2, cr11_3, cr11_4, cr11_5, cr11_6, cr11_7, cr11_8, cr11_9, cr11_10, cr11_11, cr11_12, cr11_13, cr11_14, ca_30, cs_30, ca_31, cs_31, ca_32, cs_32, ca_33, cs_33, ca_34, cs_34, ca_35, cs_35, ca_36, cs_36, ca_37, cs_37, ca_38, cs_38, ca_39, cs_39, ca_40, cs_40, ca_41, cs_41, ca_42, cs_42, car_20, car_21, car_22, cq11_3, cq11_4, cq3_1, cq0_0, cq0_1, if_true, if_false, Option.bind_some, cb_e, lt_e, nI_1, hs_nar2, nh4, upd_at, vau_at, ca_42_0, cs_42_0, s1, hr0, z1]
    have e := rF_lt (s := st0 T (ps u)) (n := (ps u).1) h6
    unfold stAll
    have key : ∀ d : Int, d = 1 ∨ d = -1 → ∃ (v : Int32) (Fc' Ac' : Nat → Nat → Int32) (rc' : Nat → Nat) (F' : Nat → Int32) (A' : Nat → Nat → Int32) (B' : Nat → Nat → Int64), fX11_slides_b58 FU 0 (nI lev) (iI d) 1 (mkC Fc1 A3 Bc r3) = some (v, mkC Fc' Ac' Bc rc') ∧ fX12_slides_b40 FU 0 (nI lev) (iI d) 0 (mkM F2 A2 B2) = some (v, mkM F' A' B') ∧ Rel (mkC Fc' Ac' Bc rc') (mkM F' A' B') := by
      intro d hd
      obtain ⟨F5, A5, B5, g1, g2⟩ := m_slides (T := T) (lev := lev) (lv := lv) (ma := ma) hd 200 0 FU (ps u) (by omega) (by decide) (hC.goodP.pb) hl (p2.ms q2) (p3.ms q2) (B := B2)
      obtain ⟨F6, A6, r6, g3, g4⟩ := c_slides (T := T) (t := t) (lev := lev) hd (B := Bc) 200 0 FU (ps u) (by omega) (by decide) (hC.goodP.pb) hl (hR1.cs z2) ((z2.2 0 (by decide) (by decide)).trans hr0)
      exact ⟨_, F6, A6, r6, F5, A5, B5, g3, g1, rel_try hT hC (mc.tr g2).md (ct.tr g4)⟩
    by_cases c2 : (fal (st0 T (ps u)) (ps u).1 0).isNone = true
    · rw [if_pos (e.2 c2), c2, if_neg (show ¬ b2 true = 0 by decide)]
      unfold fX11_slides_b54 fX12_slides_b36
      rcases hmo with rfl | rfl
      · obtain ⟨v, F6, A6, r6, F5, A5, B5, g1, g2, g3⟩ := key (-1) (Or.inr rfl)
        rw [← m1_iI] at g1 g2
        refine ⟨v, _, _, ?_, ?_, g3⟩
        · rw [if_pos rfl]; exact g1
        · rw [if_pos rfl]; exact g2
      · obtain ⟨v, F6, A6, r6, F5, A5, B5, g1, g2, g3⟩ := key 1 (Or.inl rfl)
        refine ⟨v, _, _, ?_, ?_, g3⟩
        · rw [if_neg (by decide)]; exact g1
        · rw [if_neg (by decide)]; exact g2
    · have c3 : (fal (st0 T (ps u)) (ps u).1 0).isNone = false := Bool.eq_false_iff.2 c2
      rw [if_neg (fun q => c2 (e.1 q)), c3, if_pos (show b2 false = 0 by decide)]
      exact ⟨_, _, _, rfl, rfl, rel_try hT hC mc.md ct⟩
  · rw [decide_eq_false c, if_pos (show b2 false = 0 by decide), if_pos (show b2 false = 0 by decide)]
    exact ⟨_, _, _, rfl, rfl, hR⟩
