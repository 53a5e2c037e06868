/-! ===== the class's laws ===== -/
def cop (o : Op) : Nat := if o.1 = 0 then 1 else if o.1 = 1 then 2 else if o.1 = 2 then 43 else if o.1 = 3 then 45 else if o.1 = 4 then 42 else 47
def car (o : Op) : Nat := if o.1 = 1 then 11 + o.2 else o.2
def SegC (A : Nat → Nat → Int32) (t c : Nat) : List Op → Prop
  | [] => True
  | o :: r => (A (t + 5) c = nI (cop o) ∧ (o.1 < 2 → A (t + 6) c = nI (car o))) ∧ SegC A t (c + 1) r
theorem SegC.app {A : Nat → Nat → Int32} {t : Nat} : ∀ (a : List Op) {b : List Op} {c : Nat}, SegC A t c a → SegC A t (c + a.length) b → SegC A t c (a ++ b)
  | [], b, c, _, h => h
  | o :: a, b, c, h1, h2 => by
    rw [List.length_cons, show c + (a.length + 1) = c + 1 + a.length by omega] at h2
    exact ⟨h1.1, SegC.app a h1.2 h2⟩
theorem SegC.eq {A A' : Nat → Nat → Int32} {t : Nat} : ∀ {L : List Op} {c : Nat}, SegC A t c L → (∀ j, c ≤ j → j < c + L.length → A' (t + 5) j = A (t + 5) j ∧ A' (t + 6) j = A (t + 6) j) → SegC A' t c L
  | [], _, _, _ => trivial
  | o :: r, c, h, e => by
    rw [List.length_cons] at e
    have := e c (by omega) (by omega)
    exact ⟨⟨by rw [this.1]; exact h.1.1, fun q => by rw [this.2]; exact h.1.2 q⟩, h.2.eq (fun j q1 q2 => e j (by omega) (by omega))⟩
section LC
variable {F : Nat → Nat → Int32} {B : Nat → Nat → Int64} {r : Nat → Nat} {t h lev N : Nat} {P : AP} {lg wt : Int}
/-- the class looks at a law of the book at level lev -/
def LkC (F A : Nat → Nat → Int32) (t h lev N : Nat) (P : AP) (lg wt : Int) : Prop := ((t = 7 ∨ t = 22) ∧ PA h ∧ (¬ h + 1 = t + 7 ∧ ¬ h + 2 = t + 7 ∧ ¬ h + 3 = t + 7)) ∧ (CPile F A h P ∧ P.1 ≤ 6 ∧ lev < P.1 ∧ P.2.1 lev < 6) ∧ (A (t + 2) (P.2.1 lev) = iI lg ∧ A (t + 3) (P.2.1 lev) = iI wt) ∧ F t 5 = nI N ∧ N ≤ 400
theorem LkC.up {A : Nat → Nat → Int32} (q : LkC F A t h lev N P lg wt) (g : Nat → Int32) : LkC F (va_up A (t + 7) g) t h lev N P lg wt := by
  obtain ⟨⟨a1, a2, a3, a4, a5⟩, ⟨b1, b3⟩, ⟨c1, c2⟩, d⟩ := q
  exact ⟨⟨a1, a2, a3, a4, a5⟩, ⟨b1.eq rfl (vau_ne a3) (vau_ne a4) (vau_ne a5), b3⟩, ⟨by rw [vau_ne (by omega)]; exact c1, by rw [vau_ne (by omega)]; exact c2⟩, d⟩
theorem c_var {A : Nat → Nat → Int32} (q : LkC F A t h lev N P lg wt) {i : Nat} (hi : i ≤ 4) : fX10_variable t (nI (11 + i)) h (nI lev) (mkC F A B r) = some (lawV lg wt lev (P.2.2.1 lev) (P.1 - 1 - lev) i, mkC F A B r) := by
  obtain ⟨⟨a1, ⟨p0, p1, p2, p3⟩, a3⟩, ⟨b1, b3, b4, b5⟩, ⟨c1, c2⟩, d⟩ := q
  obtain ⟨k0, k1, k2, k3, k4, k5, k6, k7, k8, k9, k10, k11⟩ := TA_of a1
  obtain ⟨e1, e2, e3⟩ := b1.2 lev b4
  have e0 := b1.1
  have hl6 : lev < 6 := by omega
  unfold fX10_variable
  simp -implicitDefEqProofs (disch := first | assumption | omega | decide | exact And.intro (by omega) (by omega)) only [cck_0, cr0_0, cr0_1, cr0_2, cr0_3, cg0_4, cp0_4, cg0_5, cp0_5, cck_1, cg1_0, cp1_0, cr1_1, cr1_2, cr1_3, cg1_4, cp1_4, cg1_5, cp1_5, cr1_6, cr1_7, cck_2, cr2_0, cr2_1, cr2_2, cck_3, cr3_0, cr3_1, cg3_2, cp3_2, cg3_3, cp3_3, cg3_4, cp3_4, cg3_5, cp3_5, cg3_6, cp3_6, cg3_7, cp3_7, cg3_8, cp3_8, cck_4, cg4_0, cp4_0, cg4_1, cp4_1, cr4_2, cr4_3, cr4_4, cr4_5, cck_5, cg5_0, cp5_0, cr5_1, cr5_2, cr5_3, cck_6, cg6_0, cp6_0, cg6_1, cp6_1, cck_7, cg7_0, cp7_0, cg7_1, cp7_1, cr7_2, cr7_3, cr7_4, cr7_5, cr7_6, cr7_7, cr7_8, cck_8, cr8_0, cr8_1, cck_9, cr9_0, cr9_1, cr9_2, cr9_3, cg9_4, cp9_4, cck_10, cg10_0, cp10_0, cr10_1, cr10_2, cr10_3, cr10_4, cg10_5, cp10_5, cr10_6, cr10_7, cr10_8, cg10_9, cp10_9, cg10_10, cp10_10, cr10_11, cr10_12, cr10_13, cr10_14, cck_11, cr11_0, cg11_1, cp11_1, cr11_2, cr11_3, cr11_4, cr11_5, cr11_6, cr11_7, cr11_8, cr11_9, cr11_10, cr11_11, cr11_12, cr11_13, cr11_14, ca_30, cs_30, ca_31, cs_31, ca_32, cs_32, ca_33, cs_33, ca_34, cs_34, ca_35, cs_35, ca_36, cs_36, ca_37, cs_37, ca_38, cs_38, ca_39, cs_39, ca_40, cs_40, ca_41, cs_41, ca_42, cs_42, car_20, car_21, car_22, cq11_3, cq11_4, cq3_1, cq0_0, cq0_1, if_true, if_false, Option.bind_some, cb_e, lt_e, nI_1, hs_nar2, nh4, upd_at, vau_at, ca_42_0, cs_42_0, e1]
  have hi' : i = 0 ∨ i = 1 ∨ i = 2 ∨ i = 3 ∨ i = 4 := by omega
  have z12 : ¬ (12 : Int32) = 11 := by decide
  have z13 : ¬ (13 : Int32) = 11 := by decide
  have z13' : ¬ (13 : Int32) = 12 := by decide
  have z14 : ¬ (14 : Int32) = 11 := by decide
  have z14' : ¬ (14 : Int32) = 12 := by decide
  have z14'' : ¬ (14 : Int32) = 13 := by decide
  have z15 : ¬ (15 : Int32) = 11 := by decide
  have z15' : ¬ (15 : Int32) = 12 := by decide
  have z15'' : ¬ (15 : Int32) = 13 := by decide
  have z15''' : ¬ (15 : Int32) = 14 := by decide
  rcases hi' with rfl | rfl | rfl | rfl | rfl
  · rw [show nI (11 + 0) = (11 : Int32) from rfl, if_pos rfl]
    simp -implicitDefEqProofs (disch := first | assumption | omega | decide | exact And.intro (by omega) (by omega)) only [cck_0, cr0_0, cr0_1, cr0_2, cr0_3, cg0_4, cp0_4, cg0_5, cp0_5, cck_1, cg1_0, cp1_0, cr1_1, cr1_2, cr1_3, cg1_4, cp1_4, cg1_5, cp1_5, cr1_6, cr1_7, cck_2, cr2_0, cr2_1, cr2_2, cck_3, cr3_0, cr3_1, cg3_2, cp3_2, cg3_3, cp3_3, cg3_4, cp3_4, cg3_5, cp3_5, cg3_6, cp3_6, cg3_7, cp3_7, cg3_8, cp3_8, cck_4, cg4_0, cp4_0, cg4_1, cp4_1, cr4_2, cr4_3, cr4_4, cr4_5, cck_5, cg5_0, cp5_0, cr5_1, cr5_2, cr5_3, cck_6, cg6_0, cp6_0, cg6_1, cp6_1, cck_7, cg7_0, cp7_0, cg7_1, cp7_1, cr7_2, cr7_3, cr7_4, cr7_5, cr7_6, cr7_7, cr7_8, cck_8, cr8_0, cr8_1, cck_9, cr9_0, cr9_1, cr9_2, cr9_3, cg9_4, cp9_4, cck_10, cg10_0, cp10_0, cr10_1, cr10_2, cr10_3, cr10_4, cg10_5, cp10_5, cr10_6, cr10_7, cr10_8, cg10_9, cp10_9, cg10_10, cp10_10, cr10_11, cr10_12, cr10_13, cr10_14, cck_11, cr11_0, cg11_1, cp11_1, cr11_2, cr11_3, cr11_4, cr11_5, cr11_6, cr11_7, cr11_8, cr11_9, cr11_10, cr11_11, cr11_12, cr11_13, cr11_14, ca_30, cs_30, ca_31, cs_31, ca_32, cs_32, ca_33, cs_33, ca_34, cs_34, ca_35, cs_35, ca_36, cs_36, ca_37, cs_37, ca_38, cs_38, ca_39, cs_39, ca_40, cs_40, ca_41, cs_41, ca_42, cs_42, car_20, car_21, car_22, cq11_3, cq11_4, cq3_1, cq0_0, cq0_1, if_true, if_false, Option.bind_some, cb_e, lt_e, nI_1, hs_nar2, nh4, upd_at, vau_at, ca_42_0, cs_42_0, c1]
    rfl
  · rw [show nI (11 + 1) = (12 : Int32) from rfl, if_neg z12, if_pos rfl]
    simp -implicitDefEqProofs (disch := first | assumption | omega | decide | exact And.intro (by omega) (by omega)) only [cck_0, cr0_0, cr0_1, cr0_2, cr0_3, cg0_4, cp0_4, cg0_5, cp0_5, cck_1, cg1_0, cp1_0, cr1_1, cr1_2, cr1_3, cg1_4, cp1_4, cg1_5, cp1_5, cr1_6, cr1_7, cck_2, cr2_0, cr2_1, cr2_2, cck_3, cr3_0, cr3_1, cg3_2, cp3_2, cg3_3, cp3_3, cg3_4, cp3_4, cg3_5, cp3_5, cg3_6, cp3_6, cg3_7, cp3_7, cg3_8, cp3_8, cck_4, cg4_0, cp4_0, cg4_1, cp4_1, cr4_2, cr4_3, cr4_4, cr4_5, cck_5, cg5_0, cp5_0, cr5_1, cr5_2, cr5_3, cck_6, cg6_0, cp6_0, cg6_1, cp6_1, cck_7, cg7_0, cp7_0, cg7_1, cp7_1, cr7_2, cr7_3, cr7_4, cr7_5, cr7_6, cr7_7, cr7_8, cck_8, cr8_0, cr8_1, cck_9, cr9_0, cr9_1, cr9_2, cr9_3, cg9_4, cp9_4, cck_10, cg10_0, cp10_0, cr10_1, cr10_2, cr10_3, cr10_4, cg10_5, cp10_5, cr10_6, cr10_7, cr10_8, cg10_9, cp10_9, cg10_10, cp10_10, cr10_11, cr10_12, cr10_13, cr10_14, cck_11, cr11_0, cg11_1, cp11_1, cr11_2, cr11_3, cr11_4, cr11_5, cr11_6, cr11_7, cr11_8, cr11_9, cr11_10, cr11_11, cr11_12, cr11_13, cr11_14, ca_30, cs_30, ca_31, cs_31, ca_32, cs_32, ca_33, cs_33, ca_34, cs_34, ca_35, cs_35, ca_36, cs_36, ca_37, cs_37, ca_38, cs_38, ca_39, cs_39, ca_40, cs_40, ca_41, cs_41, ca_42, cs_42, car_20, car_21, car_22, cq11_3, cq11_4, cq3_1, cq0_0, cq0_1, if_true, if_false, Option.bind_some, cb_e, lt_e, nI_1, hs_nar2, nh4, upd_at, vau_at, ca_42_0, cs_42_0, c2]
    rfl
  · rw [show nI (11 + 2) = (13 : Int32) from rfl, if_neg z13, if_neg z13', if_pos rfl]
    rfl
  · rw [show nI (11 + 3) = (14 : Int32) from rfl, if_neg z14, if_neg z14', if_neg z14'', if_pos rfl]
    simp -implicitDefEqProofs (disch := first | assumption | omega | decide | exact And.intro (by omega) (by omega)) only [cck_0, cr0_0, cr0_1, cr0_2, cr0_3, cg0_4, cp0_4, cg0_5, cp0_5, cck_1, cg1_0, cp1_0, cr1_1, cr1_2, cr1_3, cg1_4, cp1_4, cg1_5, cp1_5, cr1_6, cr1_7, cck_2, cr2_0, cr2_1, cr2_2, cck_3, cr3_0, cr3_1, cg3_2, cp3_2, cg3_3, cp3_3, cg3_4, cp3_4, cg3_5, cp3_5, cg3_6, cp3_6, cg3_7, cp3_7, cg3_8, cp3_8, cck_4, cg4_0, cp4_0, cg4_1, cp4_1, cr4_2, cr4_3, cr4_4, cr4_5, cck_5, cg5_0, cp5_0, cr5_1, cr5_2, cr5_3, cck_6, cg6_0, cp6_0, cg6_1, cp6_1, cck_7, cg7_0, cp7_0, cg7_1, cp7_1, cr7_2, cr7_3, cr7_4, cr7_5, cr7_6, cr7_7, cr7_8, cck_8, cr8_0, cr8_1, cck_9, cr9_0, cr9_1, cr9_2, cr9_3, cg9_4, cp9_4, cck_10, cg10_0, cp10_0, cr10_1, cr10_2, cr10_3, cr10_4, cg10_5, cp10_5, cr10_6, cr10_7, cr10_8, cg10_9, cp10_9, cg10_10, cp10_10, cr10_11, cr10_12, cr10_13, cr10_14, cck_11, cr11_0, cg11_1, cp11_1, cr11_2, cr11_3, cr11_4, cr11_5, cr11_6, cr11_7, cr11_8, cr11_9, cr11_10, cr11_11, cr11_12, cr11_13, cr11_14, ca_30, cs_30, ca_31, cs_31, ca_32, cs_32, ca_33, cs_33, ca_34, cs_34, ca_35, cs_35, ca_36, cs_36, ca_37, cs_37, ca_38, cs_38, ca_39, cs_39, ca_40, cs_40, ca_41, cs_41, ca_42, cs_42, car_20, car_21, car_22, cq11_3, cq11_4, cq3_1, cq0_0, cq0_1, if_true, if_false, Option.bind_some, cb_e, lt_e, nI_1, hs_nar2, nh4, upd_at, vau_at, ca_42_0, cs_42_0, e2]
    rfl
  · rw [show nI (11 + 4) = (15 : Int32) from rfl, if_neg z15, if_neg z15', if_neg z15'', if_neg z15''']
    simp -implicitDefEqProofs (disch := first | assumption | omega | decide | exact And.intro (by omega) (by omega)) only [cck_0, cr0_0, cr0_1, cr0_2, cr0_3, cg0_4, cp0_4, cg0_5, cp0_5, cck_1, cg1_0, cp1_0, cr1_1, cr1_2, cr1_3, cg1_4, cp1_4, cg1_5, cp1_5, cr1_6, cr1_7, cck_2, cr2_0, cr2_1, cr2_2, cck_3, cr3_0, cr3_1, cg3_2, cp3_2, cg3_3, cp3_3, cg3_4, cp3_4, cg3_5, cp3_5, cg3_6, cp3_6, cg3_7, cp3_7, cg3_8, cp3_8, cck_4, cg4_0, cp4_0, cg4_1, cp4_1, cr4_2, cr4_3, cr4_4, cr4_5, cck_5, cg5_0, cp5_0, cr5_1, cr5_2, cr5_3, cck_6, cg6_0, cp6_0, cg6_1, cp6_1, cck_7, cg7_0, cp7_0, cg7_1, cp7_1, cr7_2, cr7_3, cr7_4, cr7_5, cr7_6, cr7_7, cr7_8, cck_8, cr8_0, cr8_1, cck_9, cr9_0, cr9_1, cr9_2, cr9_3, cg9_4, cp9_4, cck_10, cg10_0, cp10_0, cr10_1, cr10_2, cr10_3, cr10_4, cg10_5, cp10_5, cr10_6, cr10_7, cr10_8, cg10_9, cp10_9, cg10_10, cp10_10, cr10_11, cr10_12, cr10_13, cr10_14, cck_11, cr11_0, cg11_1, cp11_1, cr11_2, cr11_3, cr11_4, cr11_5, cr11_6, cr11_7, cr11_8, cr11_9, cr11_10, cr11_11, cr11_12, cr11_13, cr11_14, ca_30, cs_30, ca_31, cs_31, ca_32, cs_32, ca_33, cs_33, ca_34, cs_34, ca_35, cs_35, ca_36, cs_36, ca_37, cs_37, ca_38, cs_38, ca_39, cs_39, ca_40, cs_40, ca_41, cs_41, ca_42, cs_42, car_20, car_21, car_22, cq11_3, cq11_4, cq3_1, cq0_0, cq0_1, if_true, if_false, Option.bind_some, cb_e, lt_e, nI_1, hs_nar2, nh4, upd_at, vau_at, ca_42_0, cs_42_0, e0, m_top b4]
    rfl
theorem c_seg : ∀ (L : List Op) (c fuel : Nat) (st : List Int32) (e : Nat) (A : Nat → Nat → Int32), OkL L → FitsTo L st.length e 39 → st.length ≤ 39 → c + L.length ≤ N → LkC F A t h lev N P lg wt → SegC A t c L → StA (A (t + 7)) st → (evS (lawV lg wt lev (P.2.2.1 lev) (P.1 - 1 - lev)) L st = none → ∃ g, fX10_runLaw_b6 (fuel + L.length) t h (nI lev) (nI st.length) (nI c) (mkC F A B r) = some (0, mkC F (va_up A (t + 7) g) B r)) ∧ ∀ st', evS (lawV lg wt lev (P.2.2.1 lev) (P.1 - 1 - lev)) L st = some st' → ∃ g, fX10_runLaw_b6 (fuel + L.length) t h (nI lev) (nI st.length) (nI c) (mkC F A B r) = fX10_runLaw_b6 fuel t h (nI lev) (nI st'.length) (nI (c + L.length)) (mkC F (va_up A (t + 7) g) B r) ∧ StA g st'
  | [], c, fuel, st, e, A, hO, hf, hs, hc, hK, hS, hA => by
    refine ⟨fun q => (by cases q), fun st' q => ?_⟩
    rw [evS] at q
    cases q
    exact ⟨A (t + 7), by rw [vau_id]; rfl, hA⟩
  | o :: L, c, fuel, st, e, A, hO, hf, hs, hc, hK, hS, hA => by
    rw [List.length_cons] at hc ⊢
    obtain ⟨⟨s1, s2⟩, s3⟩ := hS
    obtain ⟨o1, o2, o3⟩ := hO o (List.mem_cons_self ..)
    have hO' : OkL L := fun x hx => hO x (List.mem_cons_of_mem _ hx)
    obtain ⟨k0, k1, k2, k3, k4, k5, k6, k7, k8, k9, k10, k11⟩ := TA_of hK.1.1
    have hF5 := hK.2.2.2.1
    have hN := hK.2.2.2.2
    have hc400 : c < 400 := by omega
    have ec : c + (L.length + 1) = c + 1 + L.length := by omega
    have ef : fuel + (L.length + 1) = fuel + L.length + 1 := by omega
    have seg' : ∀ g, SegC (va_up A (t + 7) g) t (c + 1) L := fun g => s3.eq (fun j _ _ => ⟨by rw [vau_ne (by omega)], by rw [vau_ne (by omega)]⟩)
    have push : ∀ y : Int32, FitsTo L (st.length + 1) e 39 → st.length + 1 ≤ 39 → (evS (lawV lg wt lev (P.2.2.1 lev) (P.1 - 1 - lev)) L (y :: st) = none → ∃ g, fX10_runLaw_b78 (fX10_runLaw_b6 (fuel + L.length)) t h (nI lev) (nI st.length) (nI c) (t + 7) (nI st.length) y (mkC F A B r) = some (0, mkC F (va_up A (t + 7) g) B r)) ∧ ∀ st', evS (lawV lg wt lev (P.2.2.1 lev) (P.1 - 1 - lev)) L (y :: st) = some st' → ∃ g, fX10_runLaw_b78 (fX10_runLaw_b6 (fuel + L.length)) t h (nI lev) (nI st.length) (nI c) (t + 7) (nI st.length) y (mkC F A B r) = fX10_runLaw_b6 fuel t h (nI lev) (nI st'.length) (nI (c + (L.length + 1))) (mkC F (va_up A (t + 7) g) B r) ∧ StA g st' := by
      intro y hf2 hs2
      have hs40 : st.length < 40 := by omega
      obtain ⟨i1, i2⟩ := c_seg L (c + 1) fuel (y :: st) e (va_up A (t + 7) (upd (A (t + 7)) st.length y)) hO' hf2 hs2 (by omega) (hK.up _) (seg' _) ⟨by rw [vau_at, upd_at], by rw [vau_at]; exact hA.up (Nat.le_refl _)⟩
      unfold fX10_runLaw_b78 fX10_runLaw_b218
      simp -implicitDefEqProofs (disch := first | assumption | omega | decide | exact And.intro (by omega) (by omega)) only [cck_0, cr0_0, cr0_1, cr0_2, cr0_3, cg0_4, cp0_4, cg0_5, cp0_5, cck_1, cg1_0, cp1_0, cr1_1, cr1_2, cr1_3, cg1_4, cp1_4, cg1_5, cp1_5, cr1_6, cr1_7, cck_2, cr2_0, cr2_1, cr2_2, cck_3, cr3_0, cr3_1, cg3_2, cp3_2, cg3_3, cp3_3, cg3_4, cp3_4, cg3_5, cp3_5, cg3_6, cp3_6, cg3_7, cp3_7, cg3_8, cp3_8, cck_4, cg4_0, cp4_0, cg4_1, cp4_1, cr4_2, cr4_3, cr4_4, cr4_5, cck_5, cg5_0, cp5_0, cr5_1, cr5_2, cr5_3, cck_6, cg6_0, cp6_0, cg6_1, cp6_1, cck_7, cg7_0, cp7_0, cg7_1, cp7_1, cr7_2, cr7_3, cr7_4, cr7_5, cr7_6, cr7_7, cr7_8, cck_8, cr8_0, cr8_1, cck_9, cr9_0, cr9_1, cr9_2, cr9_3, cg9_4, cp9_4, cck_10, cg10_0, cp10_0, cr10_1, cr10_2, cr10_3, cr10_4, cg10_5, cp10_5, cr10_6, cr10_7, cr10_8, cg10_9, cp10_9, cg10_10, cp10_10, cr10_11, cr10_12, cr10_13, cr10_14, cck_11, cr11_0, cg11_1, cp11_1, cr11_2, cr11_3, cr11_4, cr11_5, cr11_6, cr11_7, cr11_8, cr11_9, cr11_10, cr11_11, cr11_12, cr11_13, cr11_14, ca_30, cs_30, ca_31, cs_31, ca_32, cs_32, ca_33, cs_33, ca_34, cs_34, ca_35, cs_35, ca_36, cs_36, ca_37, cs_37, ca_38, cs_38, ca_39, cs_39, ca_40, cs_40, ca_41, cs_41, ca_42, cs_42, car_20, car_21, car_22, cq11_3, cq11_4, cq3_1, cq0_0, cq0_1, if_true, if_false, Option.bind_some, cb_e, lt_e, nI_1, hs_nar2, nh4, upd_at, vau_at, ca_42_0, cs_42_0, ec]
      constructor
      · intro q
        obtain ⟨g, z⟩ := i1 q
        rw [vau_vau] at z
        exact ⟨g, z⟩
      · intro st' q
        obtain ⟨g, z, z2⟩ := i2 st' q
        rw [vau_vau] at z
        exact ⟨g, z, z2⟩
    rw [ef, fX10_runLaw_b6, evS, cg10_5 k0, Option.bind_some]
    try dsimp only
    rw [hF5, if_neg (nI_ge (show c < N by omega) (by omega)), if_neg (show ¬ (40 : Int32) ≤ nI st.length from nI_ge (b := 40) (by omega) (by decide)), cr10_6 k0, Option.bind_some]
    try dsimp only
    rw [ca_36 k5 hc400, Option.bind_some]
    try dsimp only
    rw [s1]
    by_cases c0 : o.1 = 0
    · have hf2 := hf.1 (by omega)
      have e1 : cop o = 1 := by unfold cop; rw [if_pos c0]
      have s2' := s2 (by omega)
      rw [show car o = o.2 by unfold car; rw [if_neg (by omega)]] at s2'
      rw [e1, if_pos c0, if_pos (show nI 1 = (1 : Int32) from rfl)]
      unfold fX10_runLaw_b43
      simp -implicitDefEqProofs (disch := first | assumption | omega | decide | exact And.intro (by omega) (by omega)) only [cck_0, cr0_0, cr0_1, cr0_2, cr0_3, cg0_4, cp0_4, cg0_5, cp0_5, cck_1, cg1_0, cp1_0, cr1_1, cr1_2, cr1_3, cg1_4, cp1_4, cg1_5, cp1_5, cr1_6, cr1_7, cck_2, cr2_0, cr2_1, cr2_2, cck_3, cr3_0, cr3_1, cg3_2, cp3_2, cg3_3, cp3_3, cg3_4, cp3_4, cg3_5, cp3_5, cg3_6, cp3_6, cg3_7, cp3_7, cg3_8, cp3_8, cck_4, cg4_0, cp4_0, cg4_1, cp4_1, cr4_2, cr4_3, cr4_4, cr4_5, cck_5, cg5_0, cp5_0, cr5_1, cr5_2, cr5_3, cck_6, cg6_0, cp6_0, cg6_1, cp6_1, cck_7, cg7_0, cp7_0, cg7_1, cp7_1, cr7_2, cr7_3, cr7_4, cr7_5, cr7_6, cr7_7, cr7_8, cck_8, cr8_0, cr8_1, cck_9, cr9_0, cr9_1, cr9_2, cr9_3, cg9_4, cp9_4, cck_10, cg10_0, cp10_0, cr10_1, cr10_2, cr10_3, cr10_4, cg10_5, cp10_5, cr10_6, cr10_7, cr10_8, cg10_9, cp10_9, cg10_10, cp10_10, cr10_11, cr10_12, cr10_13, cr10_14, cck_11, cr11_0, cg11_1, cp11_1, cr11_2, cr11_3, cr11_4, cr11_5, cr11_6, cr11_7, cr11_8, cr11_9, cr11_10, cr11_11, cr11_12, cr11_13, cr11_14, ca_30, cs_30, ca_31, cs_31, ca_32, cs_32, ca_33, cs_33, ca_34, cs_34, ca_35, cs_35, ca_36, cs_36, ca_37, cs_37, ca_38, cs_38, ca_39, cs_39, ca_40, cs_40, ca_41, cs_41, ca_42, cs_42, car_20, car_21, car_22, cq11_3, cq11_4, cq3_1, cq0_0, cq0_1, if_true, if_false, Option.bind_some, cb_e, lt_e, nI_1, hs_nar2, nh4, upd_at, vau_at, ca_42_0, cs_42_0]
      rw [if_pos (show nI 1 = (1 : Int32) from rfl)]
      simp -implicitDefEqProofs (disch := first | assumption | omega | decide | exact And.intro (by omega) (by omega)) only [cck_0, cr0_0, cr0_1, cr0_2, cr0_3, cg0_4, cp0_4, cg0_5, cp0_5, cck_1, cg1_0, cp1_0, cr1_1, cr1_2, cr1_3, cg1_4, cp1_4, cg1_5, cp1_5, cr1_6, cr1_7, cck_2, cr2_0, cr2_1, cr2_2, cck_3, cr3_0, cr3_1, cg3_2, cp3_2, cg3_3, cp3_3, cg3_4, cp3_4, cg3_5, cp3_5, cg3_6, cp3_6, cg3_7, cp3_7, cg3_8, cp3_8, cck_4, cg4_0, cp4_0, cg4_1, cp4_1, cr4_2, cr4_3, cr4_4, cr4_5, cck_5, cg5_0, cp5_0, cr5_1, cr5_2, cr5_3, cck_6, cg6_0, cp6_0, cg6_1, cp6_1, cck_7, cg7_0, cp7_0, cg7_1, cp7_1, cr7_2, cr7_3, cr7_4, cr7_5, cr7_6, cr7_7, cr7_8, cck_8, cr8_0, cr8_1, cck_9, cr9_0, cr9_1, cr9_2, cr9_3, cg9_4, cp9_4, cck_10, cg10_0, cp10_0, cr10_1, cr10_2, cr10_3, cr10_4, cg10_5, cp10_5, cr10_6, cr10_7, cr10_8, cg10_9, cp10_9, cg10_10, cp10_10, cr10_11, cr10_12, cr10_13, cr10_14, cck_11, cr11_0, cg11_1, cp11_1, cr11_2, cr11_3, cr11_4, cr11_5, cr11_6, cr11_7, cr11_8, cr11_9, cr11_10, cr11_11, cr11_12, cr11_13, cr11_14, ca_30, cs_30, ca_31, cs_31, ca_32, cs_32, ca_33, cs_33, ca_34, cs_34, ca_35, cs_35, ca_36, cs_36, ca_37, cs_37, ca_38, cs_38, ca_39, cs_39, ca_40, cs_40, ca_41, cs_41, ca_42, cs_42, car_20, car_21, car_22, cq11_3, cq11_4, cq3_1, cq0_0, cq0_1, if_true, if_false, Option.bind_some, cb_e, lt_e, nI_1, hs_nar2, nh4, upd_at, vau_at, ca_42_0, cs_42_0, s2']
      exact push (nI o.2) hf2.2 hf2.1
    · rw [if_neg c0]
      by_cases c1 : o.1 = 1
      · have hf2 := hf.1 (by omega)
        have e1 : cop o = 2 := by unfold cop; rw [if_neg c0, if_pos c1]
        have s2' := s2 (by omega)
        rw [show car o = 11 + o.2 by unfold car; rw [if_pos c1]] at s2'
        have vr := c_var (B := B) (r := r) hK (i := o.2) (o3 c1)
        have n21 : ¬ nI 2 = (1 : Int32) := by decide
        rw [e1, if_pos c1, if_neg n21, if_pos (show nI 2 = (2 : Int32) from rfl)]
        unfold fX10_runLaw_b43
        simp -implicitDefEqProofs (disch := first | assumption | omega | decide | exact And.intro (by omega) (by omega)) only [cck_0, cr0_0, cr0_1, cr0_2, cr0_3, cg0_4, cp0_4, cg0_5, cp0_5, cck_1, cg1_0, cp1_0, cr1_1, cr1_2, cr1_3, cg1_4, cp1_4, cg1_5, cp1_5, cr1_6, cr1_7, cck_2, cr2_0, cr2_1, cr2_2, cck_3, cr3_0, cr3_1, cg3_2, cp3_2, cg3_3, cp3_3, cg3_4, cp3_4, cg3_5, cp3_5, cg3_6, cp3_6, cg3_7, cp3_7, cg3_8, cp3_8, cck_4, cg4_0, cp4_0, cg4_1, cp4_1, cr4_2, cr4_3, cr4_4, cr4_5, cck_5, cg5_0, cp5_0, cr5_1, cr5_2, cr5_3, cck_6, cg6_0, cp6_0, cg6_1, cp6_1, cck_7, cg7_0, cp7_0, cg7_1, cp7_1, cr7_2, cr7_3, cr7_4, cr7_5, cr7_6, cr7_7, cr7_8, cck_8, cr8_0, cr8_1, cck_9, cr9_0, cr9_1, cr9_2, cr9_3, cg9_4, cp9_4, cck_10, cg10_0, cp10_0, cr10_1, cr10_2, cr10_3, cr10_4, cg10_5, cp10_5, cr10_6, cr10_7, cr10_8, cg10_9, cp10_9, cg10_10, cp10_10, cr10_11, cr10_12, cr10_13, cr10_14, cck_11, cr11_0, cg11_1, cp11_1, cr11_2, cr11_3, cr11_4, cr11_5, cr11_6, cr11_7, cr11_8, cr11_9, cr11_10, cr11_11, cr11_12, cr11_13, cr11_14, ca_30, cs_30, ca_31, cs_31, ca_32, cs_32, ca_33, cs_33, ca_34, cs_34, ca_35, cs_35, ca_36, cs_36, ca_37, cs_37, ca_38, cs_38, ca_39, cs_39, ca_40, cs_40, ca_41, cs_41, ca_42, cs_42, car_20, car_21, car_22, cq11_3, cq11_4, cq3_1, cq0_0, cq0_1, if_true, if_false, Option.bind_some, cb_e, lt_e, nI_1, hs_nar2, nh4, upd_at, vau_at, ca_42_0, cs_42_0]
        rw [if_neg n21]
        simp -implicitDefEqProofs (disch := first | assumption | omega | decide | exact And.intro (by omega) (by omega)) only [cck_0, cr0_0, cr0_1, cr0_2, cr0_3, cg0_4, cp0_4, cg0_5, cp0_5, cck_1, cg1_0, cp1_0, cr1_1, cr1_2, cr1_3, cg1_4, cp1_4, cg1_5, cp1_5, cr1_6, cr1_7, cck_2, cr2_0, cr2_1, cr2_2, cck_3, cr3_0, cr3_1, cg3_2, cp3_2, cg3_3, cp3_3, cg3_4, cp3_4, cg3_5, cp3_5, cg3_6, cp3_6, cg3_7, cp3_7, cg3_8, cp3_8, cck_4, cg4_0, cp4_0, cg4_1, cp4_1, cr4_2, cr4_3, cr4_4, cr4_5, cck_5, cg5_0, cp5_0, cr5_1, cr5_2, cr5_3, cck_6, cg6_0, cp6_0, cg6_1, cp6_1, cck_7, cg7_0, cp7_0, cg7_1, cp7_1, cr7_2, cr7_3, cr7_4, cr7_5, cr7_6, cr7_7, cr7_8, cck_8, cr8_0, cr8_1, cck_9, cr9_0, cr9_1, cr9_2, cr9_3, cg9_4, cp9_4, cck_10, cg10_0, cp10_0, cr10_1, cr10_2, cr10_3, cr10_4, cg10_5, cp10_5, cr10_6, cr10_7, cr10_8, cg10_9, cp10_9, cg10_10, cp10_10, cr10_11, cr10_12, cr10_13, cr10_14, cck_11, cr11_0, cg11_1, cp11_1, cr11_2, cr11_3, cr11_4, cr11_5, cr11_6, cr11_7, cr11_8, cr11_9, cr11_10, cr11_11, cr11_12, cr11_13, cr11_14, ca_30, cs_30, ca_31, cs_31, ca_32, cs_32, ca_33, cs_33, ca_34, cs_34, ca_35, cs_35, ca_36, cs_36, ca_37, cs_37, ca_38, cs_38, ca_39, cs_39, ca_40, cs_40, ca_41, cs_41, ca_42, cs_42, car_20, car_21, car_22, cq11_3, cq11_4, cq3_1, cq0_0, cq0_1, if_true, if_false, Option.bind_some, cb_e, lt_e, nI_1, hs_nar2, nh4, upd_at, vau_at, ca_42_0, cs_42_0, s2', vr]
        exact push _ hf2.2 hf2.1
      · have hf2 := hf.2 (by omega)
        rw [if_neg c1]
        match st, hA, hf2, hs with
        | [b], _, hf2, _ => exact absurd hf2.1 (by simp)
        | [], _, hf2, _ => exact absurd hf2.1 (by simp)
        | b :: a :: st2, hA, hf2, hs =>
          obtain ⟨hA1, hA2, hA3⟩ := hA
          rw [List.length_cons, List.length_cons] at hs hf2
          rw [List.length_cons] at hA1
          have l40 : st2.length < 40 := by omega
          have l41 : st2.length + 1 < 40 := by omega
          have e1 : nI (st2.length + 1 + 1) + (-1) = nI (st2.length + 1) := pk_m1 _
          have e2 : nI (st2.length + 1) - 1 = nI st2.length := nI_pred _
          rw [List.length_cons, List.length_cons, bin2]
          have hcop : (o.1 = 2 ∧ cop o = 43) ∨ (o.1 = 3 ∧ cop o = 45) ∨ (o.1 = 4 ∧ cop o = 42) ∨ (o.1 = 5 ∧ cop o = 47) := by
            unfold cop
            rw [if_neg c0, if_neg c1]
            by_cases d2 : o.1 = 2
            · left; exact ⟨d2, by rw [if_pos d2]⟩
            rw [if_neg d2]
            by_cases d3 : o.1 = 3
            · right; left; exact ⟨d3, by rw [if_pos d3]⟩
            rw [if_neg d3]
            by_cases d4 : o.1 = 4
            · right; right; left; exact ⟨d4, by rw [if_pos d4]⟩
            rw [if_neg d4]
            right; right; right; exact ⟨by omega, rfl⟩
          have ck : ∀ d : Nat, d < 40 → ¬ nI (cop o) = nI d := fun d hd q => by
            have := (nI_eq (a := cop o) (b := d) (by omega) (by omega)).1 q
            omega
          have n2l : (2 : Int32) ≤ nI (st2.length + 1 + 1) := nI_le (a := 2) (by omega) (by omega)
          rw [if_neg (show ¬ nI (cop o) = (1 : Int32) from ck 1 (by decide)), if_neg (show ¬ nI (cop o) = (2 : Int32) from ck 2 (by decide)), if_neg (show ¬ nI (cop o) = (4 : Int32) from ck 4 (by decide)), if_pos n2l, if_neg (show ¬ nI (cop o) = (3 : Int32) from ck 3 (by decide))]
          have rk1 : ¬ (o.1 = 5 ∧ b = 0) → ∀ σ, fX10_reckon (nI (cop o)) a b σ = some (opv o.1 a b, σ) := by
            intro hn σ
            unfold fX10_reckon opv
            have cq : ∀ d : Nat, d < 256 → ¬ cop o = d → ¬ nI (cop o) = nI d := fun d hd q z => q ((nI_eq (by omega) (by omega)).1 z)
            rcases hcop with ⟨h1, h2⟩ | ⟨h1, h2⟩ | ⟨h1, h2⟩ | ⟨h1, h2⟩
            · rw [if_pos h1, if_neg (show ¬ nI (cop o) = (42 : Int32) from cq 42 (by decide) (by omega)), if_pos (show nI (cop o) = (43 : Int32) by rw [h2]; rfl)]
            · rw [if_neg (show ¬ o.1 = 2 by omega), if_pos h1, if_neg (show ¬ nI (cop o) = (42 : Int32) from cq 42 (by decide) (by omega)), if_neg (show ¬ nI (cop o) = (43 : Int32) from cq 43 (by decide) (by omega)), if_neg (show ¬ nI (cop o) = (44 : Int32) from cq 44 (by decide) (by omega)), if_pos (show nI (cop o) = (45 : Int32) by rw [h2]; rfl)]
            · rw [if_neg (show ¬ o.1 = 2 by omega), if_neg (show ¬ o.1 = 3 by omega), if_pos h1, if_pos (show nI (cop o) = (42 : Int32) by rw [h2]; rfl)]
            · have hb : ¬ b = 0 := fun q => hn ⟨h1, q⟩
              rw [if_neg (show ¬ o.1 = 2 by omega), if_neg (show ¬ o.1 = 3 by omega), if_neg (show ¬ o.1 = 4 by omega), if_neg (show ¬ nI (cop o) = (42 : Int32) from cq 42 (by decide) (by omega)), if_neg (show ¬ nI (cop o) = (43 : Int32) from cq 43 (by decide) (by omega)), if_neg (show ¬ nI (cop o) = (44 : Int32) from cq 44 (by decide) (by omega)), if_neg (show ¬ nI (cop o) = (45 : Int32) from cq 45 (by decide) (by omega)), if_neg hb, if_neg hb]
          have b188 : ¬ (o.1 = 5 ∧ b = 0) → (evS (lawV lg wt lev (P.2.2.1 lev) (P.1 - 1 - lev)) L (opv o.1 a b :: st2) = none → ∃ g, fX10_runLaw_b188 (fX10_runLaw_b6 (fuel + L.length)) t h (nI lev) (nI (st2.length + 1)) (nI c) (nI (cop o)) (mkC F A B r) = some (0, mkC F (va_up A (t + 7) g) B r)) ∧ ∀ st', evS (lawV lg wt lev (P.2.2.1 lev) (P.1 - 1 - lev)) L (opv o.1 a b :: st2) = some st' → ∃ g, fX10_runLaw_b188 (fX10_runLaw_b6 (fuel + L.length)) t h (nI lev) (nI (st2.length + 1)) (nI c) (nI (cop o)) (mkC F A B r) = fX10_runLaw_b6 fuel t h (nI lev) (nI st'.length) (nI (c + (L.length + 1))) (mkC F (va_up A (t + 7) g) B r) ∧ StA g st' := by
            intro hn
            obtain ⟨i1, i2⟩ := c_seg L (c + 1) fuel (opv o.1 a b :: st2) e (va_up A (t + 7) (upd (A (t + 7)) st2.length (opv o.1 a b))) hO' hf2.2 (by rw [List.length_cons]; omega) (by omega) (hK.up _) (seg' _) ⟨by rw [vau_at, upd_at], by rw [vau_at]; exact hA3.up (Nat.le_refl _)⟩
            unfold fX10_runLaw_b188 fX10_runLaw_b218
            simp -implicitDefEqProofs (disch := first | assumption | omega | decide | exact And.intro (by omega) (by omega)) only [cck_0, cr0_0, cr0_1, cr0_2, cr0_3, cg0_4, cp0_4, cg0_5, cp0_5, cck_1, cg1_0, cp1_0, cr1_1, cr1_2, cr1_3, cg1_4, cp1_4, cg1_5, cp1_5, cr1_6, cr1_7, cck_2, cr2_0, cr2_1, cr2_2, cck_3, cr3_0, cr3_1, cg3_2, cp3_2, cg3_3, cp3_3, cg3_4, cp3_4, cg3_5, cp3_5, cg3_6, cp3_6, cg3_7, cp3_7, cg3_8, cp3_8, cck_4, cg4_0, cp4_0, cg4_1, cp4_1, cr4_2, cr4_3, cr4_4, cr4_5, cck_5, cg5_0, cp5_0, cr5_1, cr5_2, cr5_3, cck_6, cg6_0, cp6_0, cg6_1, cp6_1, cck_7, cg7_0, cp7_0, cg7_1, cp7_1, cr7_2, cr7_3, cr7_4, cr7_5, cr7_6, cr7_7, cr7_8, cck_8, cr8_0, cr8_1, cck_9, cr9_0, cr9_1, cr9_2, cr9_3, cg9_4, cp9_4, cck_10, cg10_0, cp10_0, cr10_1, cr10_2, cr10_3, cr10_4, cg10_5, cp10_5, cr10_6, cr10_7, cr10_8, cg10_9, cp10_9, cg10_10, cp10_10, cr10_11, cr10_12, cr10_13, cr10_14, cck_11, cr11_0, cg11_1, cp11_1, cr11_2, cr11_3, cr11_4, cr11_5, cr11_6, cr11_7, cr11_8, cr11_9, cr11_10, cr11_11, cr11_12, cr11_13, cr11_14, ca_30, cs_30, ca_31, cs_31, ca_32, cs_32, ca_33, cs_33, ca_34, cs_34, ca_35, cs_35, ca_36, cs_36, ca_37, cs_37, ca_38, cs_38, ca_39, cs_39, ca_40, cs_40, ca_41, cs_41, ca_42, cs_42, car_20, car_21, car_22, cq11_3, cq11_4, cq3_1, cq0_0, cq0_1, if_true, if_false, Option.bind_some, cb_e, lt_e, nI_1, hs_nar2, nh4, upd_at, vau_at, ca_42_0, cs_42_0, e2, hA1, hA2, rk1 hn, ec]
            constructor
            · intro q
              obtain ⟨g, z⟩ := i1 q
              rw [vau_vau] at z
              exact ⟨g, z⟩
            · intro st' q
              obtain ⟨g, z, z2⟩ := i2 st' q
              rw [vau_vau] at z
              exact ⟨g, z, z2⟩
          by_cases d5 : o.1 = 5
          · have h47 : cop o = 47 := by omega
            rw [if_pos (show nI (cop o) = (47 : Int32) by rw [h47]; rfl)]
            simp -implicitDefEqProofs (disch := first | assumption | omega | decide | exact And.intro (by omega) (by omega)) only [cck_0, cr0_0, cr0_1, cr0_2, cr0_3, cg0_4, cp0_4, cg0_5, cp0_5, cck_1, cg1_0, cp1_0, cr1_1, cr1_2, cr1_3, cg1_4, cp1_4, cg1_5, cp1_5, cr1_6, cr1_7, cck_2, cr2_0, cr2_1, cr2_2, cck_3, cr3_0, cr3_1, cg3_2, cp3_2, cg3_3, cp3_3, cg3_4, cp3_4, cg3_5, cp3_5, cg3_6, cp3_6, cg3_7, cp3_7, cg3_8, cp3_8, cck_4, cg4_0, cp4_0, cg4_1, cp4_1, cr4_2, cr4_3, cr4_4, cr4_5, cck_5, cg5_0, cp5_0, cr5_1, cr5_2, cr5_3, cck_6, cg6_0, cp6_0, cg6_1, cp6_1, cck_7, cg7_0, cp7_0, cg7_1, cp7_1, cr7_2, cr7_3, cr7_4, cr7_5, cr7_6, cr7_7, cr7_8, cck_8, cr8_0, cr8_1, cck_9, cr9_0, cr9_1, cr9_2, cr9_3, cg9_4, cp9_4, cck_10, cg10_0, cp10_0, cr10_1, cr10_2, cr10_3, cr10_4, cg10_5, cp10_5, cr10_6, cr10_7, cr10_8, cg10_9, cp10_9, cg10_10, cp10_10, cr10_11, cr10_12, cr10_13, cr10_14, cck_11, cr11_0, cg11_1, cp11_1, cr11_2, cr11_3, cr11_4, cr11_5, cr11_6, cr11_7, cr11_8, cr11_9, cr11_10, cr11_11, cr11_12, cr11_13, cr11_14, ca_30, cs_30, ca_31, cs_31, ca_32, cs_32, ca_33, cs_33, ca_34, cs_34, ca_35, cs_35, ca_36, cs_36, ca_37, cs_37, ca_38, cs_38, ca_39, cs_39, ca_40, cs_40, ca_41, cs_41, ca_42, cs_42, car_20, car_21, car_22, cq11_3, cq11_4, cq3_1, cq0_0, cq0_1, if_true, if_false, Option.bind_some, cb_e, lt_e, nI_1, hs_nar2, nh4, upd_at, vau_at, ca_42_0, cs_42_0, e1, hA1]
            by_cases db : b = 0
            · rw [if_pos ⟨d5, db⟩, if_pos db]
              exact ⟨fun _ => ⟨A (t + 7), by rw [vau_id]⟩, fun x q => (by cases q)⟩
            · rw [if_neg (fun q => db q.2), if_neg db]
              exact b188 (fun q => db q.2)
          · rw [if_neg (show ¬ nI (cop o) = (47 : Int32) from fun q => by
              have := (nI_eq (a := cop o) (b := 47) (by omega) (by decide)).1 q
              omega), if_neg (fun q => d5 q.1), e1]
            exact b188 (fun q => d5 q.1)
end LC
