/-! ===== the class reads terms ===== -/
def CPo (F : Nat → Nat → Int32) (PL : Nat → Nat) (fa t : Nat) : Prop := F 37 3 = nI fa ∧ (∃ x, x ≤ 400 ∧ F 37 2 = nI x ∧ (fa = 0 → x = t)) ∧ (¬ fa = 0 → F 37 4 = nI (PL t)) ∧ fa ≤ 2
theorem CPo.eq {F F' : Nat → Nat → Int32} {PL : Nat → Nat} {fa t : Nat} (h : CPo F PL fa t) (e : F' 37 = F 37) : CPo F' PL fa t := by
  unfold CPo at *
  rw [e]
  exact h
def CTk (A : Nat → Nat → Int32) (B : Nat → Nat → Int64) (M : Nat) (K V PL : Nat → Nat) : Prop := ∀ j, j ≤ M → A 4 j = nI (K j) ∧ A 5 j = nI (PL j) ∧ (K j = 17 → B 6 j = jN (V j))
def CFr (d : Nat) (F F' A A' : Nat → Nat → Int32) : Prop := (∀ c, ¬ c = 37 → ¬ c = d → F' c = F c) ∧ (∀ k, ¬ k = 5 → F' d k = F d k) ∧ (∀ k, ¬ k = 2 → ¬ k = 3 → ¬ k = 4 → F' 37 k = F 37 k) ∧ ∀ c, ¬ c = d + 5 → ¬ c = d + 6 → A' c = A c
/-- the code below c lasts, there is no less of it -/
def CTr (d c : Nat) (F F' A A' : Nat → Nat → Int32) : Prop := CFr d F F' A A' ∧ (∀ j, j < c → A' (d + 5) j = A (d + 5) j ∧ A' (d + 6) j = A (d + 6) j) ∧ ∃ c', F' d 5 = nI c' ∧ c ≤ c' ∧ c' ≤ 400
theorem CFr.tr {d : Nat} {F F1 F2 A A1 A2 : Nat → Nat → Int32} (h : CFr d F F1 A A1) (g : CFr d F1 F2 A1 A2) : CFr d F F2 A A2 := ⟨fun c q1 q2 => (g.1 c q1 q2).trans (h.1 c q1 q2), fun k q => (g.2.1 k q).trans (h.2.1 k q), fun k q1 q2 q3 => (g.2.2.1 k q1 q2 q3).trans (h.2.2.1 k q1 q2 q3), fun c q1 q2 => (g.2.2.2 c q1 q2).trans (h.2.2.2 c q1 q2)⟩
theorem CTr.tr {d c c1 : Nat} {F F1 F2 A A1 A2 : Nat → Nat → Int32} (h : CTr d c F F1 A A1) (g : CTr d c1 F1 F2 A1 A2) (hc : c ≤ c1) : CTr d c F F2 A A2 := by
  obtain ⟨h1, h2, h3⟩ := h
  obtain ⟨g1, g2, c', g3, g4, g5⟩ := g
  exact ⟨h1.tr g1, fun j hj => ⟨(g2 j (by omega)).1.trans (h2 j hj).1, (g2 j (by omega)).2.trans (h2 j hj).2⟩, c', g3, by omega, g5⟩
section CX74
variable {d M : Nat} {K V PL : Nat → Nat} {B : Nat → Nat → Int64} {r : Nat → Nat}
theorem CTk.fr {F F' A A' : Nat → Nat → Int32} (hd : d = 7 ∨ d = 22) (h : CTk A B M K V PL) (g : CFr d F F' A A') : CTk A' B M K V PL := by
  unfold CTk at *
  rw [g.2.2.2 4 (by omega) (by omega), g.2.2.2 5 (by omega) (by omega)]
  exact h
theorem c_fail {F A : Nat → Nat → Int32} {t : Nat} (hK : TkK M K V) (ht : t ≤ M) (h : CPo F PL 0 t) (hk : CTk A B M K V PL) {n : Nat} (hn : n ≤ 2) (hn0 : ¬ n = 0) : ∃ F', fX3_fail 37 (nI n) (mkC F A B r) = some ((), mkC F' A B r) ∧ CPo F' PL n t ∧ (∀ c, ¬ c = 37 → F' c = F c) ∧ ∀ k, ¬ k = 2 → ¬ k = 3 → ¬ k = 4 → F' 37 k = F 37 k := by
  obtain ⟨f3, ⟨x, x1, x2, x3⟩, _, _⟩ := h
  rw [x3 rfl] at x2
  have f3' : F 37 3 = 0 := f3
  have hM := hK.1
  have h5 := (hk t ht).2.1
  have ht402 : t < 402 := by omega
  unfold fX3_fail
  simp -implicitDefEqProofs (disch := first | assumption | omega | decide | exact And.intro (by omega) (by omega)) only [cck_0, cr0_0, cr0_1, cr0_2, cr0_3, cg0_4, cp0_4, cg0_5, cp0_5, cck_1, cg1_0, cp1_0, cr1_1, cr1_2, cr1_3, cg1_4, cp1_4, cg1_5, cp1_5, cr1_6, cr1_7, cck_2, cr2_0, cr2_1, cr2_2, cck_3, cr3_0, cr3_1, cg3_2, cp3_2, cg3_3, cp3_3, cg3_4, cp3_4, cg3_5, cp3_5, cg3_6, cp3_6, cg3_7, cp3_7, cg3_8, cp3_8, cck_4, cg4_0, cp4_0, cg4_1, cp4_1, cr4_2, cr4_3, cr4_4, cr4_5, cck_5, cg5_0, cp5_0, cr5_1, cr5_2, cr5_3, cck_6, cg6_0, cp6_0, cg6_1, cp6_1, cck_7, cg7_0, cp7_0, cg7_1, cp7_1, cr7_2, cr7_3, cr7_4, cr7_5, cr7_6, cr7_7, cr7_8, cck_8, cr8_0, cr8_1, cck_9, cr9_0, cr9_1, cr9_2, cr9_3, cg9_4, cp9_4, cck_10, cg10_0, cp10_0, cr10_1, cr10_2, cr10_3, cr10_4, cg10_5, cp10_5, cr10_6, cr10_7, cr10_8, cg10_9, cp10_9, cg10_10, cp10_10, cr10_11, cr10_12, cr10_13, cr10_14, cck_11, cr11_0, cg11_1, cp11_1, cr11_2, cr11_3, cr11_4, cr11_5, cr11_6, cr11_7, cr11_8, cr11_9, cr11_10, cr11_11, cr11_12, cr11_13, cr11_14, ca_30, cs_30, ca_31, cs_31, ca_32, cs_32, ca_33, cs_33, ca_34, cs_34, ca_35, cs_35, ca_36, cs_36, ca_37, cs_37, ca_38, cs_38, ca_39, cs_39, ca_40, cs_40, ca_41, cs_41, ca_42, cs_42, car_20, car_21, car_22, cq11_3, cq11_4, cq3_1, cq0_0, cq0_1, if_true, if_false, Option.bind_some, cb_e, lt_e, nI_1, hs_nar2, nh4, upd_at, vau_at, ca_42_0, cs_42_0, f3', x2, upd_ne, h5]
  refine ⟨_, rfl, ⟨by rw [vau_at, upd_ne (by decide), upd_at], ⟨t, by omega, by rw [vau_at, upd_ne (by decide), upd_ne (by decide)]; exact x2, fun q => absurd q hn0⟩, fun _ => by rw [vau_at, upd_at], hn⟩, fun c hc => by rw [vau_ne hc, vau_ne hc], fun k q1 q2 q3 => by rw [vau_at, upd_ne q3, upd_ne q2]⟩
theorem c_take {F A : Nat → Nat → Int32} {t k : Nat} (hK : TkK M K V) (ht : t ≤ M) (h : CPo F PL 0 t) (hk : CTk A B M K V PL) (hkk : k < 256) (hk18 : ¬ k = 18) : ∃ F', fX3_take 37 (nI k) (mkC F A B r) = some (nI t, mkC F' A B r) ∧ CPo F' PL (tkk K k t).1 (tkk K k t).2 ∧ (∀ c, ¬ c = 37 → F' c = F c) ∧ ∀ k, ¬ k = 2 → ¬ k = 3 → ¬ k = 4 → F' 37 k = F 37 k := by
  obtain ⟨f3, ⟨x, x1, x2, x3⟩, _, _⟩ := id h
  rw [x3 rfl] at x2
  have f3' : F 37 3 = 0 := f3
  have hM := hK.1
  have h4 := (hk t ht).1
  have ht402 : t < 402 := by omega
  have kl := vk_lt (hK.2.1 t ht).1
  have keq : nI (K t) = nI k ↔ K t = k := nI_eq (by omega) (by omega)
  unfold fX3_take tkk
  simp -implicitDefEqProofs (disch := first | assumption | omega | decide | exact And.intro (by omega) (by omega)) only [cck_0, cr0_0, cr0_1, cr0_2, cr0_3, cg0_4, cp0_4, cg0_5, cp0_5, cck_1, cg1_0, cp1_0, cr1_1, cr1_2, cr1_3, cg1_4, cp1_4, cg1_5, cp1_5, cr1_6, cr1_7, cck_2, cr2_0, cr2_1, cr2_2, cck_3, cr3_0, cr3_1, cg3_2, cp3_2, cg3_3, cp3_3, cg3_4, cp3_4, cg3_5, cp3_5, cg3_6, cp3_6, cg3_7, cp3_7, cg3_8, cp3_8, cck_4, cg4_0, cp4_0, cg4_1, cp4_1, cr4_2, cr4_3, cr4_4, cr4_5, cck_5, cg5_0, cp5_0, cr5_1, cr5_2, cr5_3, cck_6, cg6_0, cp6_0, cg6_1, cp6_1, cck_7, cg7_0, cp7_0, cg7_1, cp7_1, cr7_2, cr7_3, cr7_4, cr7_5, cr7_6, cr7_7, cr7_8, cck_8, cr8_0, cr8_1, cck_9, cr9_0, cr9_1, cr9_2, cr9_3, cg9_4, cp9_4, cck_10, cg10_0, cp10_0, cr10_1, cr10_2, cr10_3, cr10_4, cg10_5, cp10_5, cr10_6, cr10_7, cr10_8, cg10_9, cp10_9, cg10_10, cp10_10, cr10_11, cr10_12, cr10_13, cr10_14, cck_11, cr11_0, cg11_1, cp11_1, cr11_2, cr11_3, cr11_4, cr11_5, cr11_6, cr11_7, cr11_8, cr11_9, cr11_10, cr11_11, cr11_12, cr11_13, cr11_14, ca_30, cs_30, ca_31, cs_31, ca_32, cs_32, ca_33, cs_33, ca_34, cs_34, ca_35, cs_35, ca_36, cs_36, ca_37, cs_37, ca_38, cs_38, ca_39, cs_39, ca_40, cs_40, ca_41, cs_41, ca_42, cs_42, car_20, car_21, car_22, cq11_3, cq11_4, cq3_1, cq0_0, cq0_1, if_true, if_false, Option.bind_some, cb_e, lt_e, nI_1, hs_nar2, nh4, upd_at, vau_at, ca_42_0, cs_42_0, f3', x2, h4]
  by_cases c : K t = k
  · rw [if_pos (keq.2 c), if_pos c]
    by_cases c4 : t < 400
    · rw [if_pos (show nI t < (400 : Int32) from nI_lt (b := 400) c4 (by decide)), if_pos c4]
      simp -implicitDefEqProofs (disch := first | assumption | omega | decide | exact And.intro (by omega) (by omega)) only [cck_0, cr0_0, cr0_1, cr0_2, cr0_3, cg0_4, cp0_4, cg0_5, cp0_5, cck_1, cg1_0, cp1_0, cr1_1, cr1_2, cr1_3, cg1_4, cp1_4, cg1_5, cp1_5, cr1_6, cr1_7, cck_2, cr2_0, cr2_1, cr2_2, cck_3, cr3_0, cr3_1, cg3_2, cp3_2, cg3_3, cp3_3, cg3_4, cp3_4, cg3_5, cp3_5, cg3_6, cp3_6, cg3_7, cp3_7, cg3_8, cp3_8, cck_4, cg4_0, cp4_0, cg4_1, cp4_1, cr4_2, cr4_3, cr4_4, cr4_5, cck_5, cg5_0, cp5_0, cr5_1, cr5_2, cr5_3, cck_6, cg6_0, cp6_0, cg6_1, cp6_1, cck_7, cg7_0, cp7_0, cg7_1, cp7_1, cr7_2, cr7_3, cr7_4, cr7_5, cr7_6, cr7_7, cr7_8, cck_8, cr8_0, cr8_1, cck_9, cr9_0, cr9_1, cr9_2, cr9_3, cg9_4, cp9_4, cck_10, cg10_0, cp10_0, cr10_1, cr10_2, cr10_3, cr10_4, cg10_5, cp10_5, cr10_6, cr10_7, cr10_8, cg10_9, cp10_9, cg10_10, cp10_10, cr10_11, cr10_12, cr10_13, cr10_14, cck_11, cr11_0, cg11_1, cp11_1, cr11_2, cr11_3, cr11_4, cr11_5, cr11_6, cr11_7, cr11_8, cr11_9, cr11_10, cr11_11, cr11_12, cr11_13, cr11_14, ca_30, cs_30, ca_31, cs_31, ca_32, cs_32, ca_33, cs_33, ca_34, cs_34, ca_35, cs_35, ca_36, cs_36, ca_37, cs_37, ca_38, cs_38, ca_39, cs_39, ca_40, cs_40, ca_41, cs_41, ca_42, cs_42, car_20, car_21, car_22, cq11_3, cq11_4, cq3_1, cq0_0, cq0_1, if_true, if_false, Option.bind_some, cb_e, lt_e, nI_1, hs_nar2, nh4, upd_at, vau_at, ca_42_0, cs_42_0]
      have ton := hK.on ht (by omega) c4
      exact ⟨_, rfl, ⟨by rw [vau_at, upd_ne (by decide)]; exact f3, ⟨t + 1, by omega, by rw [vau_at, upd_at], fun _ => rfl⟩, fun q => absurd rfl q, by omega⟩, fun c hc => vau_ne hc, fun k q1 q2 q3 => by rw [vau_at, upd_ne q1]⟩
    · rw [if_neg (show ¬ nI t < (400 : Int32) from nI_nlt (b := 400) (by omega) (by omega)), if_neg c4]
      obtain ⟨F', z1, z2, z3, z4⟩ := c_fail (r := r) hK ht h hk (n := 2) (by decide) (by decide)
      have z1' : fX3_fail 37 2 (mkC F A B r) = some ((), mkC F' A B r) := z1
      simp -implicitDefEqProofs (disch := first | assumption | omega | decide | exact And.intro (by omega) (by omega)) only [cck_0, cr0_0, cr0_1, cr0_2, cr0_3, cg0_4, cp0_4, cg0_5, cp0_5, cck_1, cg1_0, cp1_0, cr1_1, cr1_2, cr1_3, cg1_4, cp1_4, cg1_5, cp1_5, cr1_6, cr1_7, cck_2, cr2_0, cr2_1, cr2_2, cck_3, cr3_0, cr3_1, cg3_2, cp3_2, cg3_3, cp3_3, cg3_4, cp3_4, cg3_5, cp3_5, cg3_6, cp3_6, cg3_7, cp3_7, cg3_8, cp3_8, cck_4, cg4_0, cp4_0, cg4_1, cp4_1, cr4_2, cr4_3, cr4_4, cr4_5, cck_5, cg5_0, cp5_0, cr5_1, cr5_2, cr5_3, cck_6, cg6_0, cp6_0, cg6_1, cp6_1, cck_7, cg7_0, cp7_0, cg7_1, cp7_1, cr7_2, cr7_3, cr7_4, cr7_5, cr7_6, cr7_7, cr7_8, cck_8, cr8_0, cr8_1, cck_9, cr9_0, cr9_1, cr9_2, cr9_3, cg9_4, cp9_4, cck_10, cg10_0, cp10_0, cr10_1, cr10_2, cr10_3, cr10_4, cg10_5, cp10_5, cr10_6, cr10_7, cr10_8, cg10_9, cp10_9, cg10_10, cp10_10, cr10_11, cr10_12, cr10_13, cr10_14, cck_11, cr11_0, cg11_1, cp11_1, cr11_2, cr11_3, cr11_4, cr11_5, cr11_6, cr11_7, cr11_8, cr11_9, cr11_10, cr11_11, cr11_12, cr11_13, cr11_14, ca_30, cs_30, ca_31, cs_31, ca_32, cs_32, ca_33, cs_33, ca_34, cs_34, ca_35, cs_35, ca_36, cs_36, ca_37, cs_37, ca_38, cs_38, ca_39, cs_39, ca_40, cs_40, ca_41, cs_41, ca_42, cs_42, car_20, car_21, car_22, cq11_3, cq11_4, cq3_1, cq0_0, cq0_1, if_true, if_false, Option.bind_some, cb_e, lt_e, nI_1, hs_nar2, nh4, upd_at, vau_at, ca_42_0, cs_42_0, z1']
      exact ⟨F', rfl, z2, z3, z4⟩
  · rw [if_neg (fun q => c (keq.1 q)), if_neg c]
    obtain ⟨F', z1, z2, z3, z4⟩ := c_fail (r := r) hK ht h hk (n := 1) (by decide) (by decide)
    have z1' : fX3_fail 37 1 (mkC F A B r) = some ((), mkC F' A B r) := z1
    simp -implicitDefEqProofs (disch := first | assumption | omega | decide | exact And.intro (by omega) (by omega)) only [cck_0, cr0_0, cr0_1, cr0_2, cr0_3, cg0_4, cp0_4, cg0_5, cp0_5, cck_1, cg1_0, cp1_0, cr1_1, cr1_2, cr1_3, cg1_4, cp1_4, cg1_5, cp1_5, cr1_6, cr1_7, cck_2, cr2_0, cr2_1, cr2_2, cck_3, cr3_0, cr3_1, cg3_2, cp3_2, cg3_3, cp3_3, cg3_4, cp3_4, cg3_5, cp3_5, cg3_6, cp3_6, cg3_7, cp3_7, cg3_8, cp3_8, cck_4, cg4_0, cp4_0, cg4_1, cp4_1, cr4_2, cr4_3, cr4_4, cr4_5, cck_5, cg5_0, cp5_0, cr5_1, cr5_2, cr5_3, cck_6, cg6_0, cp6_0, cg6_1, cp6_1, cck_7, cg7_0, cp7_0, cg7_1, cp7_1, cr7_2, cr7_3, cr7_4, cr7_5, cr7_6, cr7_7, cr7_8, cck_8, cr8_0, cr8_1, cck_9, cr9_0, cr9_1, cr9_2, cr9_3, cg9_4, cp9_4, cck_10, cg10_0, cp10_0, cr10_1, cr10_2, cr10_3, cr10_4, cg10_5, cp10_5, cr10_6, cr10_7, cr10_8, cg10_9, cp10_9, cg10_10, cp10_10, cr10_11, cr10_12, cr10_13, cr10_14, cck_11, cr11_0, cg11_1, cp11_1, cr11_2, cr11_3, cr11_4, cr11_5, cr11_6, cr11_7, cr11_8, cr11_9, cr11_10, cr11_11, cr11_12, cr11_13, cr11_14, ca_30, cs_30, ca_31, cs_31, ca_32, cs_32, ca_33, cs_33, ca_34, cs_34, ca_35, cs_35, ca_36, cs_36, ca_37, cs_37, ca_38, cs_38, ca_39, cs_39, ca_40, cs_40, ca_41, cs_41, ca_42, cs_42, car_20, car_21, car_22, cq11_3, cq11_4, cq3_1, cq0_0, cq0_1, if_true, if_false, Option.bind_some, cb_e, lt_e, nI_1, hs_nar2, nh4, upd_at, vau_at, ca_42_0, cs_42_0, z1']
    exact ⟨F', rfl, z2, z3, z4⟩
theorem c_takeF {F A : Nat → Nat → Int32} {fa t : Nat} (h : CPo F PL fa t) (hf : ¬ fa = 0) (k : Int32) : fX3_take 37 k (mkC F A B r) = some (F 37 2, mkC F A B r) := by
  have f3 := h.1
  have hz : ¬ nI fa = 0 := nI_ne0 (by omega) (by have := h.2.2.2; omega)
  unfold fX3_take
  simp -implicitDefEqProofs (disch := first | assumption | omega | decide | exact And.intro (by omega) (by omega)) only [cck_0, cr0_0, cr0_1, cr0_2, cr0_3, cg0_4, cp0_4, cg0_5, cp0_5, cck_1, cg1_0, cp1_0, cr1_1, cr1_2, cr1_3, cg1_4, cp1_4, cg1_5, cp1_5, cr1_6, cr1_7, cck_2, cr2_0, cr2_1, cr2_2, cck_3, cr3_0, cr3_1, cg3_2, cp3_2, cg3_3, cp3_3, cg3_4, cp3_4, cg3_5, cp3_5, cg3_6, cp3_6, cg3_7, cp3_7, cg3_8, cp3_8, cck_4, cg4_0, cp4_0, cg4_1, cp4_1, cr4_2, cr4_3, cr4_4, cr4_5, cck_5, cg5_0, cp5_0, cr5_1, cr5_2, cr5_3, cck_6, cg6_0, cp6_0, cg6_1, cp6_1, cck_7, cg7_0, cp7_0, cg7_1, cp7_1, cr7_2, cr7_3, cr7_4, cr7_5, cr7_6, cr7_7, cr7_8, cck_8, cr8_0, cr8_1, cck_9, cr9_0, cr9_1, cr9_2, cr9_3, cg9_4, cp9_4, cck_10, cg10_0, cp10_0, cr10_1, cr10_2, cr10_3, cr10_4, cg10_5, cp10_5, cr10_6, cr10_7, cr10_8, cg10_9, cp10_9, cg10_10, cp10_10, cr10_11, cr10_12, cr10_13, cr10_14, cck_11, cr11_0, cg11_1, cp11_1, cr11_2, cr11_3, cr11_4, cr11_5, cr11_6, cr11_7, cr11_8, cr11_9, cr11_10, cr11_11, cr11_12, cr11_13, cr11_14, ca_30, cs_30, ca_31, cs_31, ca_32, cs_32, ca_33, cs_33, ca_34, cs_34, ca_35, cs_35, ca_36, cs_36, ca_37, cs_37, ca_38, cs_38, ca_39, cs_39, ca_40, cs_40, ca_41, cs_41, ca_42, cs_42, car_20, car_21, car_22, cq11_3, cq11_4, cq3_1, cq0_0, cq0_1, if_true, if_false, Option.bind_some, cb_e, lt_e, nI_1, hs_nar2, nh4, upd_at, vau_at, ca_42_0, cs_42_0, f3, if_neg hz]
theorem c_failF {F A : Nat → Nat → Int32} {fa t : Nat} (h : CPo F PL fa t) (hf : ¬ fa = 0) (k : Int32) : fX3_fail 37 k (mkC F A B r) = some ((), mkC F A B r) := by
  have f3 := h.1
  have hz : ¬ nI fa = 0 := nI_ne0 (by omega) (by have := h.2.2.2; omega)
  unfold fX3_fail
  simp -implicitDefEqProofs (disch := first | assumption | omega | decide | exact And.intro (by omega) (by omega)) only [cck_0, cr0_0, cr0_1, cr0_2, cr0_3, cg0_4, cp0_4, cg0_5, cp0_5, cck_1, cg1_0, cp1_0, cr1_1, cr1_2, cr1_3, cg1_4, cp1_4, cg1_5, cp1_5, cr1_6, cr1_7, cck_2, cr2_0, cr2_1, cr2_2, cck_3, cr3_0, cr3_1, cg3_2, cp3_2, cg3_3, cp3_3, cg3_4, cp3_4, cg3_5, cp3_5, cg3_6, cp3_6, cg3_7, cp3_7, cg3_8, cp3_8, cck_4, cg4_0, cp4_0, cg4_1, cp4_1, cr4_2, cr4_3, cr4_4, cr4_5, cck_5, cg5_0, cp5_0, cr5_1, cr5_2, cr5_3, cck_6, cg6_0, cp6_0, cg6_1, cp6_1, cck_7, cg7_0, cp7_0, cg7_1, cp7_1, cr7_2, cr7_3, cr7_4, cr7_5, cr7_6, cr7_7, cr7_8, cck_8, cr8_0, cr8_1, cck_9, cr9_0, cr9_1, cr9_2, cr9_3, cg9_4, cp9_4, cck_10, cg10_0, cp10_0, cr10_1, cr10_2, cr10_3, cr10_4, cg10_5, cp10_5, cr10_6, cr10_7, cr10_8, cg10_9, cp10_9, cg10_10, cp10_10, cr10_11, cr10_12, cr10_13, cr10_14, cck_11, cr11_0, cg11_1, cp11_1, cr11_2, cr11_3, cr11_4, cr11_5, cr11_6, cr11_7, cr11_8, cr11_9, cr11_10, cr11_11, cr11_12, cr11_13, cr11_14, ca_30, cs_30, ca_31, cs_31, ca_32, cs_32, ca_33, cs_33, ca_34, cs_34, ca_35, cs_35, ca_36, cs_36, ca_37, cs_37, ca_38, cs_38, ca_39, cs_39, ca_40, cs_40, ca_41, cs_41, ca_42, cs_42, car_20, car_21, car_22, cq11_3, cq11_4, cq3_1, cq0_0, cq0_1, if_true, if_false, Option.bind_some, cb_e, lt_e, nI_1, hs_nar2, nh4, upd_at, vau_at, ca_42_0, cs_42_0, f3, if_neg hz]
theorem c_emit {F A : Nat → Nat → Int32} {c : Nat} (hd : d = 7 ∨ d = 22) (h5 : F d 5 = nI c) (hc : c ≤ 400) (op ar : Int32) : ∃ v F' A', fX10_emit d op ar (mkC F A B r) = some (v, mkC F' A' B r) ∧ F' 37 = F 37 ∧ CTr d c F F' A A' ∧ (c < 400 → v = nI c ∧ F' d 5 = nI (c + 1) ∧ A' (d + 5) = upd (A (d + 5)) c op ∧ A' (d + 6) = upd (A (d + 6)) c ar) := by
  obtain ⟨k0, k1, k2, k3, k4, k5, k6, k7, k8, k9, k10, k11⟩ := TA_of hd
  unfold fX10_emit
  simp -implicitDefEqProofs (disch := first | assumption | omega | decide | exact And.intro (by omega) (by omega)) only [cck_0, cr0_0, cr0_1, cr0_2, cr0_3, cg0_4, cp0_4, cg0_5, cp0_5, cck_1, cg1_0, cp1_0, cr1_1, cr1_2, cr1_3, cg1_4, cp1_4, cg1_5, cp1_5, cr1_6, cr1_7, cck_2, cr2_0, cr2_1, cr2_2, cck_3, cr3_0, cr3_1, cg3_2, cp3_2, cg3_3, cp3_3, cg3_4, cp3_4, cg3_5, cp3_5, cg3_6, cp3_6, cg3_7, cp3_7, cg3_8, cp3_8, cck_4, cg4_0, cp4_0, cg4_1, cp4_1, cr4_2, cr4_3, cr4_4, cr4_5, cck_5, cg5_0, cp5_0, cr5_1, cr5_2, cr5_3, cck_6, cg6_0, cp6_0, cg6_1, cp6_1, cck_7, cg7_0, cp7_0, cg7_1, cp7_1, cr7_2, cr7_3, cr7_4, cr7_5, cr7_6, cr7_7, cr7_8, cck_8, cr8_0, cr8_1, cck_9, cr9_0, cr9_1, cr9_2, cr9_3, cg9_4, cp9_4, cck_10, cg10_0, cp10_0, cr10_1, cr10_2, cr10_3, cr10_4, cg10_5, cp10_5, cr10_6, cr10_7, cr10_8, cg10_9, cp10_9, cg10_10, cp10_10, cr10_11, cr10_12, cr10_13, cr10_14, cck_11, cr11_0, cg11_1, cp11_1, cr11_2, cr11_3, cr11_4, cr11_5, cr11_6, cr11_7, cr11_8, cr11_9, cr11_10, cr11_11, cr11_12, cr11_13, cr11_14, ca_30, cs_30, ca_31, cs_31, ca_32, cs_32, ca_33, cs_33, ca_34, cs_34, ca_35, cs_35, ca_36, cs_36, ca_37, cs_37, ca_38, cs_38, ca_39, cs_39, ca_40, cs_40, ca_41, cs_41, ca_42, cs_42, car_20, car_21, car_22, cq11_3, cq11_4, cq3_1, cq0_0, cq0_1, if_true, if_false, Option.bind_some, cb_e, lt_e, nI_1, hs_nar2, nh4, upd_at, vau_at, ca_42_0, cs_42_0, h5]
  by_cases c4 : c < 400
  · rw [if_pos (show nI c < (400 : Int32) from nI_lt (b := 400) c4 (by decide))]
    have n1 : ¬ d + 6 = d + 5 := by omega
    have e : nI (c + 1) - 1 = nI c := nI_pred c
    simp -implicitDefEqProofs (disch := first | assumption | omega | decide | exact And.intro (by omega) (by omega)) only [cck_0, cr0_0, cr0_1, cr0_2, cr0_3, cg0_4, cp0_4, cg0_5, cp0_5, cck_1, cg1_0, cp1_0, cr1_1, cr1_2, cr1_3, cg1_4, cp1_4, cg1_5, cp1_5, cr1_6, cr1_7, cck_2, cr2_0, cr2_1, cr2_2, cck_3, cr3_0, cr3_1, cg3_2, cp3_2, cg3_3, cp3_3, cg3_4, cp3_4, cg3_5, cp3_5, cg3_6, cp3_6, cg3_7, cp3_7, cg3_8, cp3_8, cck_4, cg4_0, cp4_0, cg4_1, cp4_1, cr4_2, cr4_3, cr4_4, cr4_5, cck_5, cg5_0, cp5_0, cr5_1, cr5_2, cr5_3, cck_6, cg6_0, cp6_0, cg6_1, cp6_1, cck_7, cg7_0, cp7_0, cg7_1, cp7_1, cr7_2, cr7_3, cr7_4, cr7_5, cr7_6, cr7_7, cr7_8, cck_8, cr8_0, cr8_1, cck_9, cr9_0, cr9_1, cr9_2, cr9_3, cg9_4, cp9_4, cck_10, cg10_0, cp10_0, cr10_1, cr10_2, cr10_3, cr10_4, cg10_5, cp10_5, cr10_6, cr10_7, cr10_8, cg10_9, cp10_9, cg10_10, cp10_10, cr10_11, cr10_12, cr10_13, cr10_14, cck_11, cr11_0, cg11_1, cp11_1, cr11_2, cr11_3, cr11_4, cr11_5, cr11_6, cr11_7, cr11_8, cr11_9, cr11_10, cr11_11, cr11_12, cr11_13, cr11_14, ca_30, cs_30, ca_31, cs_31, ca_32, cs_32, ca_33, cs_33, ca_34, cs_34, ca_35, cs_35, ca_36, cs_36, ca_37, cs_37, ca_38, cs_38, ca_39, cs_39, ca_40, cs_40, ca_41, cs_41, ca_42, cs_42, car_20, car_21, car_22, cq11_3, cq11_4, cq3_1, cq0_0, cq0_1, if_true, if_false, Option.bind_some, cb_e, lt_e, nI_1, hs_nar2, nh4, upd_at, vau_at, ca_42_0, cs_42_0, h5, vau_ne n1, e]
    refine ⟨nI c, va_up F d (upd (F d) 5 (nI (c + 1))), va_up (va_up A (d + 5) (upd (A (d + 5)) c op)) (d + 6) (upd (A (d + 6)) c ar), rfl, by rw [vau_ne (by omega)], ⟨⟨fun x q1 q2 => vau_ne q2, fun k q => by rw [vau_at, upd_ne q], fun k _ _ _ => by rw [vau_ne (by omega)], fun x q1 q2 => by rw [vau_ne q2, vau_ne q1]⟩, fun j hj => ⟨by rw [vau_ne (by omega), vau_at, upd_ne (by omega)], by rw [vau_at, upd_ne (by omega)]⟩, c + 1, by rw [vau_at, upd_at], by omega, by omega⟩, fun _ => ⟨rfl, by rw [vau_at, upd_at], by rw [vau_ne (by omega), vau_at], by rw [vau_at]⟩⟩
  · rw [if_neg (show ¬ nI c < (400 : Int32) from nI_nlt (b := 400) (by omega) (by omega))]
    exact ⟨_, F, A, rfl, rfl, ⟨⟨fun _ _ _ => rfl, fun _ _ => rfl, fun _ _ _ _ => rfl, fun _ _ _ => rfl⟩, fun _ _ => ⟨rfl, rfl⟩, c, h5, by omega, hc⟩, fun q => absurd q c4⟩
/-- the class's X does what S tells -/
def CIm (d M : Nat) (K V PL : Nat → Nat) (B : Nat → Nat → Int64) (r : Nat → Nat) (X : Nat → Int32 → Sto → Option (Unit × Sto)) (S : Nat → Nat → Rs) (n0 : Nat) : Prop := ∀ n t c (F A : Nat → Nat → Int32), n0 ≤ n → n ≤ 6 → t ≤ M → CPo F PL 0 t → F d 5 = nI c → c ≤ t → CTk A B M K V PL → ∃ F' A', X 37 (nI n) (mkC F A B r) = some ((), mkC F' A' B r) ∧ CPo F' PL (S n t).1 (S n t).2.1 ∧ CTr d c F F' A A' ∧ ((S n t).1 = 0 → F' d 5 = nI (c + (S n t).2.2.length) ∧ SegC A' d c (S n t).2.2)
/-- behind a fault X leaves it -/
def CPs (d M : Nat) (K V PL : Nat → Nat) (B : Nat → Nat → Int64) (r : Nat → Nat) (X : Nat → Int32 → Sto → Option (Unit × Sto)) : Prop := ∀ (n : Int32) c fa tp (F A : Nat → Nat → Int32), ¬ fa = 0 → CPo F PL fa tp → F d 5 = nI c → c ≤ 400 → CTk A B M K V PL → ∃ F' A', X 37 n (mkC F A B r) = some ((), mkC F' A' B r) ∧ CPo F' PL fa tp ∧ CTr d c F F' A A'
theorem c_part_bad {U : Nat → Int32 → Sto → Option (Unit × Sto)} {fuel fa tp c i : Nat} {n : Int32} {F A : Nat → Nat → Int32} (hfu : 0 < fuel) (hfa : ¬ fa = 0) (hpo : CPo F PL fa tp) : fX3_part_b7 U fuel 37 n (nI i) (mkC F A B r) = some ((), mkC F A B r) := by
  obtain ⟨fuel, rfl⟩ : ∃ q, fuel = q + 1 := ⟨fuel - 1, by omega⟩
  have g3 := hpo.1
  have gz : ¬ nI fa = 0 := nI_ne0 (by omega) (by have := hpo.2.2.2; omega)
  rw [fX3_part_b7]
  split
  · rfl
  · simp -implicitDefEqProofs (disch := first | assumption | omega | decide | exact And.intro (by omega) (by omega)) only [cck_0, cr0_0, cr0_1, cr0_2, cr0_3, cg0_4, cp0_4, cg0_5, cp0_5, cck_1, cg1_0, cp1_0, cr1_1, cr1_2, cr1_3, cg1_4, cp1_4, cg1_5, cp1_5, cr1_6, cr1_7, cck_2, cr2_0, cr2_1, cr2_2, cck_3, cr3_0, cr3_1, cg3_2, cp3_2, cg3_3, cp3_3, cg3_4, cp3_4, cg3_5, cp3_5, cg3_6, cp3_6, cg3_7, cp3_7, cg3_8, cp3_8, cck_4, cg4_0, cp4_0, cg4_1, cp4_1, cr4_2, cr4_3, cr4_4, cr4_5, cck_5, cg5_0, cp5_0, cr5_1, cr5_2, cr5_3, cck_6, cg6_0, cp6_0, cg6_1, cp6_1, cck_7, cg7_0, cp7_0, cg7_1, cp7_1, cr7_2, cr7_3, cr7_4, cr7_5, cr7_6, cr7_7, cr7_8, cck_8, cr8_0, cr8_1, cck_9, cr9_0, cr9_1, cr9_2, cr9_3, cg9_4, cp9_4, cck_10, cg10_0, cp10_0, cr10_1, cr10_2, cr10_3, cr10_4, cg10_5, cp10_5, cr10_6, cr10_7, cr10_8, cg10_9, cp10_9, cg10_10, cp10_10, cr10_11, cr10_12, cr10_13, cr10_14, cck_11, cr11_0, cg11_1, cp11_1, cr11_2, cr11_3, cr11_4, cr11_5, cr11_6, cr11_7, cr11_8, cr11_9, cr11_10, cr11_11, cr11_12, cr11_13, cr11_14, ca_30, cs_30, ca_31, cs_31, ca_32, cs_32, ca_33, cs_33, ca_34, cs_34, ca_35, cs_35, ca_36, cs_36, ca_37, cs_37, ca_38, cs_38, ca_39, cs_39, ca_40, cs_40, ca_41, cs_41, ca_42, cs_42, car_20, car_21, car_22, cq11_3, cq11_4, cq3_1, cq0_0, cq0_1, if_true, if_false, Option.bind_some, cb_e, lt_e, nI_1, hs_nar2, nh4, upd_at, vau_at, ca_42_0, cs_42_0, g3, if_neg gz]
theorem c_part_post {U : Nat → Int32 → Sto → Option (Unit × Sto)} (hP : CPs d M K V PL B r U) : CPs d M K V PL B r (fX3_partg U) := by
  intro n c fa tp F A hfa hpo h5 hc htk
  obtain ⟨F1, A1, u1, u2, u3⟩ := hP n c fa tp F A hfa hpo h5 hc htk
  have bd := c_part_bad (B := B) (r := r) (U := U) (fuel := FU) (i := 0) (c := 0) (n := n) (A := A1) (by decide) hfa u2
  have bd' : fX3_part_b7 U FU 37 n 0 (mkC F1 A1 B r) = some ((), mkC F1 A1 B r) := bd
  refine ⟨F1, A1, ?_, u2, u3⟩
  unfold fX3_partg
  simp -implicitDefEqProofs (disch := first | assumption | omega | decide | exact And.intro (by omega) (by omega)) only [cck_0, cr0_0, cr0_1, cr0_2, cr0_3, cg0_4, cp0_4, cg0_5, cp0_5, cck_1, cg1_0, cp1_0, cr1_1, cr1_2, cr1_3, cg1_4, cp1_4, cg1_5, cp1_5, cr1_6, cr1_7, cck_2, cr2_0, cr2_1, cr2_2, cck_3, cr3_0, cr3_1, cg3_2, cp3_2, cg3_3, cp3_3, cg3_4, cp3_4, cg3_5, cp3_5, cg3_6, cp3_6, cg3_7, cp3_7, cg3_8, cp3_8, cck_4, cg4_0, cp4_0, cg4_1, cp4_1, cr4_2, cr4_3, cr4_4, cr4_5, cck_5, cg5_0, cp5_0, cr5_1, cr5_2, cr5_3, cck_6, cg6_0, cp6_0, cg6_1, cp6_1, cck_7, cg7_0, cp7_0, cg7_1, cp7_1, cr7_2, cr7_3, cr7_4, cr7_5, cr7_6, cr7_7, cr7_8, cck_8, cr8_0, cr8_1, cck_9, cr9_0, cr9_1, cr9_2, cr9_3, cg9_4, cp9_4, cck_10, cg10_0, cp10_0, cr10_1, cr10_2, cr10_3, cr10_4, cg10_5, cp10_5, cr10_6, cr10_7, cr10_8, cg10_9, cp10_9, cg10_10, cp10_10, cr10_11, cr10_12, cr10_13, cr10_14, cck_11, cr11_0, cg11_1, cp11_1, cr11_2, cr11_3, cr11_4, cr11_5, cr11_6, cr11_7, cr11_8, cr11_9, cr11_10, cr11_11, cr11_12, cr11_13, cr11_14, ca_30, cs_30, ca_31, cs_31, ca_32, cs_32, ca_33, cs_33, ca_34, cs_34, ca_35, cs_35, ca_36, cs_36, ca_37, cs_37, ca_38, cs_38, ca_39, cs_39, ca_40, cs_40, ca_41, cs_41, ca_42, cs_42, car_20, car_21, car_22, cq11_3, cq11_4, cq3_1, cq0_0, cq0_1, if_true, if_false, Option.bind_some, cb_e, lt_e, nI_1, hs_nar2, nh4, upd_at, vau_at, ca_42_0, cs_42_0, u1, bd']
theorem c_part_go {U : Nat → Int32 → Sto → Option (Unit × Sto)} {S : Nat → Nat → Rs} {hh : Nat → Nat} {n0 : Nat} (hK : TkK M K V) (hd : d = 7 ∨ d = 22) (hr : r 2 = d) (hS : SpOK n0 M hh S) (hU : CIm d M K V PL B r U S n0) (hP : CPs d M K V PL B r U) {n : Nat} (hn0 : n0 ≤ n) (hn : n ≤ 6) {c0 : Nat} : ∀ m i t L fuel (F A : Nat → Nat → Int32), 401 ≤ t + m → m < fuel → i ≤ t → t ≤ M → CPo F PL 0 t → F d 5 = nI (c0 + L.length) → c0 + L.length ≤ t → SegC A d c0 L → CTk A B M K V PL → ∃ F' A', fX3_part_b7 U fuel 37 (nI n) (nI i) (mkC F A B r) = some ((), mkC F' A' B r) ∧ CPo F' PL (pL K 42 47 S m n t L).1 (pL K 42 47 S m n t L).2.1 ∧ CTr d c0 F F' A A' ∧ ((pL K 42 47 S m n t L).1 = 0 → F' d 5 = nI (c0 + (pL K 42 47 S m n t L).2.2.length) ∧ SegC A' d c0 (pL K 42 47 S m n t L).2.2) := by
  have hM := hK.1
  intro m
  induction m with
  | zero =>
    intro i t L fuel F A h1 h2 h3 h4 h5 h6 h8 h9 h10
    omega
  | succ m ih =>
    intro i t L fuel F A h1 h2 h3 h4 h5 h6 h8 h9 h10
    obtain ⟨fuel, rfl⟩ : ∃ q, fuel = q + 1 := ⟨fuel - 1, by omega⟩
    have f3 := h5.1
    obtain ⟨x, x1, x2, x3⟩ := h5.2.1
    rw [x3 rfl] at x2
    have k4 := (h10 t h4).1
    have ht402 : t < 402 := by omega
    have kl := vk_lt (hK.2.1 t h4).1
    have f3' : F 37 3 = 0 := f3
    have keq : ∀ z : Nat, z < 256 → (nI (K t) = nI z ↔ K t = z) := fun z hz => nI_eq (by omega) (by omega)
    have go : (K t = 42 ∨ K t = 47) → ∃ F' A', fX3_part_b47 U (fX3_part_b7 U fuel) 37 (nI n) (nI i) (nI (K t)) (mkC F A B r) = some ((), mkC F' A' B r) ∧ CPo F' PL (pL K 42 47 S (m + 1) n t L).1 (pL K 42 47 S (m + 1) n t L).2.1 ∧ CTr d c0 F F' A A' ∧ ((pL K 42 47 S (m + 1) n t L).1 = 0 → F' d 5 = nI (c0 + (pL K 42 47 S (m + 1) n t L).2.2.length) ∧ SegC A' d c0 (pL K 42 47 S (m + 1) n t L).2.2) := by
      intro hc
      rw [pL, if_pos hc]
      have hk18 : ¬ K t = 18 := by omega
      obtain ⟨F1, z1, z2, z3, z4⟩ := c_take (B := B) (r := r) hK h4 h5 h10 (k := K t) (by omega) hk18
      have tk1 : tkk K (K t) t = if t < 400 then (0, t + 1) else (2, t) := by unfold tkk; rw [if_pos rfl]
      rw [tk1] at z2
      have f15 : F1 d 5 = nI (c0 + L.length) := by rw [z3 d (by omega)]; exact h6
      have fr1 : CTr d (c0 + L.length) F F1 A A := ⟨⟨fun c q1 _ => z3 c q1, fun k _ => by rw [z3 d (by omega)], z4, fun _ _ _ => rfl⟩, fun _ _ => ⟨rfl, rfl⟩, _, f15, Nat.le_refl _, by omega⟩
      -- the end behind a fault
      have bad : ∀ fa tp (F2 A2 : Nat → Nat → Int32), ¬ fa = 0 → CPo F2 PL fa tp → CTr d (c0 + L.length) F1 F2 A A2 → U 37 (nI n) (mkC F1 A B r) = some ((), mkC F2 A2 B r) → ∃ F' A', fX3_part_b47 U (fX3_part_b7 U fuel) 37 (nI n) (nI i) (nI (K t)) (mkC F A B r) = some ((), mkC F' A' B r) ∧ CPo F' PL fa tp ∧ CTr d c0 F F' A A' := by
        intro fa tp F2 A2 hfa hpo ht2 hu
        obtain ⟨c2, hc2, hc3, hc4⟩ := ht2.2.2
        obtain ⟨v, F3, A3, e1, e3, e2, e7⟩ := c_emit (B := B) (r := r) hd hc2 hc4 (A := A2) (nI (K t)) 0
        have bd := c_part_bad (B := B) (r := r) (U := U) (fuel := fuel) (i := i + 1) (c := 0) (n := nI n) (A := A3) (by omega) hfa (hpo.eq e3)
        have hr2 : gR (mkC F2 A2 B r) 3 37 1 = some d := by rw [cr3_1 rfl, hr]
        refine ⟨F3, A3, ?_, hpo.eq e3, fr1.tr (ht2.tr e2 (by omega)) (Nat.le_refl _) |>.tr ⟨⟨fun _ _ _ => rfl, fun _ _ => rfl, fun _ _ _ _ => rfl, fun _ _ _ => rfl⟩, fun _ _ => ⟨rfl, rfl⟩, e2.2.2⟩ (by omega) |> fun w => ⟨w.1, fun j hj => w.2.1 j (by omega), w.2.2.elim (fun c' hh => ⟨c', hh.1, by omega, hh.2.2⟩)⟩⟩
        unfold fX3_part_b47
        simp -implicitDefEqProofs (disch := first | assumption | omega | decide | exact And.intro (by omega) (by omega)) only [cck_0, cr0_0, cr0_1, cr0_2, cr0_3, cg0_4, cp0_4, cg0_5, cp0_5, cck_1, cg1_0, cp1_0, cr1_1, cr1_2, cr1_3, cg1_4, cp1_4, cg1_5, cp1_5, cr1_6, cr1_7, cck_2, cr2_0, cr2_1, cr2_2, cck_3, cr3_0, cr3_1, cg3_2, cp3_2, cg3_3, cp3_3, cg3_4, cp3_4, cg3_5, cp3_5, cg3_6, cp3_6, cg3_7, cp3_7, cg3_8, cp3_8, cck_4, cg4_0, cp4_0, cg4_1, cp4_1, cr4_2, cr4_3, cr4_4, cr4_5, cck_5, cg5_0, cp5_0, cr5_1, cr5_2, cr5_3, cck_6, cg6_0, cp6_0, cg6_1, cp6_1, cck_7, cg7_0, cp7_0, cg7_1, cp7_1, cr7_2, cr7_3, cr7_4, cr7_5, cr7_6, cr7_7, cr7_8, cck_8, cr8_0, cr8_1, cck_9, cr9_0, cr9_1, cr9_2, cr9_3, cg9_4, cp9_4, cck_10, cg10_0, cp10_0, cr10_1, cr10_2, cr10_3, cr10_4, cg10_5, cp10_5, cr10_6, cr10_7, cr10_8, cg10_9, cp10_9, cg10_10, cp10_10, cr10_11, cr10_12, cr10_13, cr10_14, cck_11, cr11_0, cg11_1, cp11_1, cr11_2, cr11_3, cr11_4, cr11_5, cr11_6, cr11_7, cr11_8, cr11_9, cr11_10, cr11_11, cr11_12, cr11_13, cr11_14, ca_30, cs_30, ca_31, cs_31, ca_32, cs_32, ca_33, cs_33, ca_34, cs_34, ca_35, cs_35, ca_36, cs_36, ca_37, cs_37, ca_38, cs_38, ca_39, cs_39, ca_40, cs_40, ca_41, cs_41, ca_42, cs_42, car_20, car_21, car_22, cq11_3, cq11_4, cq3_1, cq0_0, cq0_1, if_true, if_false, Option.bind_some, cb_e, lt_e, nI_1, hs_nar2, nh4, upd_at, vau_at, ca_42_0, cs_42_0, z1, hu, hr2, e1]
        exact bd
      by_cases c4 : t < 400
      · rw [if_pos c4] at z2 ⊢
        have t1 := hK.on h4 hk18 c4
        obtain ⟨F2, A2, u1, u2, u3, u7⟩ := hU n (t + 1) (c0 + L.length) F1 A hn0 hn t1 z2 f15 (by omega) h10
        obtain ⟨⟨s1, s2, s3⟩, s4⟩ := hS n (t + 1) hn0 hn t1
        have htk2 : CTk A2 B M K V PL := h10.fr hd u3.1
        have hr2 : gR (mkC F2 A2 B r) 3 37 1 = some d := by rw [cr3_1 rfl, hr]
        by_cases cS : (S n (t + 1)).1 = 0
        · rw [if_pos cS]
          obtain ⟨w1, w2, w3⟩ := s4 cS
          obtain ⟨y1, y2⟩ := u7 cS
          rw [cS] at u2
          obtain ⟨v, F3, A3, e1, e3, e2, e7⟩ := c_emit (B := B) (r := r) hd y1 (by omega) (A := A2) (nI (K t)) 0
          obtain ⟨e8, e9, e10, e11⟩ := e7 (by omega)
          have segL : SegC A3 d c0 (L ++ (S n (t + 1)).2.2 ++ [(sgo (K t), 0)]) := by
            refine SegC.app _ (SegC.app _ (h9.eq (fun j q1 q2 => ?_)) (y2.eq (fun j q1 q2 => ?_))) ⟨⟨?_, fun q => absurd q (by have := (sgo_b (K t)).1; show ¬ sgo (K t) < 2; omega)⟩, trivial⟩
            · rw [(e2.2.1 j (by omega)).1, (e2.2.1 j (by omega)).2]
              exact u3.2.1 j (by omega)
            · exact e2.2.1 j (by omega)
            · rw [List.length_append, ← Nat.add_assoc, e10, upd_at]
              congr 1
              rcases hc with hc | hc
              · rw [hc]; rfl
              · rw [hc]; rfl
          have el : c0 + (L ++ (S n (t + 1)).2.2 ++ [(sgo (K t), 0)]).length = c0 + L.length + (S n (t + 1)).2.2.length + 1 := by
            rw [List.length_append, List.length_append, List.length_singleton]
            omega
          obtain ⟨F4, A4, i1, i2, i3, i7⟩ := ih (i + 1) (S n (t + 1)).2.1 (L ++ (S n (t + 1)).2.2 ++ [(sgo (K t), 0)]) fuel F3 A3 (by omega) (by omega) (by omega) s2 (u2.eq e3) (by rw [el]; exact e9) (by rw [el]; omega) segL (htk2.fr hd e2.1)
          have tr1 : CTr d (c0 + L.length) F F3 A A3 := fr1.tr (u3.tr e2 (by omega)) (Nat.le_refl _)
          refine ⟨F4, A4, ?_, i2, ⟨tr1.1.tr i3.1, fun j hj => ?_, i3.2.2⟩, i7⟩
          · unfold fX3_part_b47
            simp -implicitDefEqProofs (disch := first | assumption | omega | decide | exact And.intro (by omega) (by omega)) only [cck_0, cr0_0, cr0_1, cr0_2, cr0_3, cg0_4, cp0_4, cg0_5, cp0_5, cck_1, cg1_0, cp1_0, cr1_1, cr1_2, cr1_3, cg1_4, cp1_4, cg1_5, cp1_5, cr1_6, cr1_7, cck_2, cr2_0, cr2_1, cr2_2, cck_3, cr3_0, cr3_1, cg3_2, cp3_2, cg3_3, cp3_3, cg3_4, cp3_4, cg3_5, cp3_5, cg3_6, cp3_6, cg3_7, cp3_7, cg3_8, cp3_8, cck_4, cg4_0, cp4_0, cg4_1, cp4_1, cr4_2, cr4_3, cr4_4, cr4_5, cck_5, cg5_0, cp5_0, cr5_1, cr5_2, cr5_3, cck_6, cg6_0, cp6_0, cg6_1, cp6_1, cck_7, cg7_0, cp7_0, cg7_1, cp7_1, cr7_2, cr7_3, cr7_4, cr7_5, cr7_6, cr7_7, cr7_8, cck_8, cr8_0, cr8_1, cck_9, cr9_0, cr9_1, cr9_2, cr9_3, cg9_4, cp9_4, cck_10, cg10_0, cp10_0, cr10_1, cr10_2, cr10_3, cr10_4, cg10_5, cp10_5, cr10_6, cr10_7, cr10_8, cg10_9, cp10_9, cg10_10, cp10_10, cr10_11, cr10_12, cr10_13, cr10_14, cck_11, cr11_0, cg11_1, cp11_1, cr11_2, cr11_3, cr11_4, cr11_5, cr11_6, cr11_7, cr11_8, cr11_9, cr11_10, cr11_11, cr11_12, cr11_13, cr11_14, ca_30, cs_30, ca_31, cs_31, ca_32, cs_32, ca_33, cs_33, ca_34, cs_34, ca_35, cs_35, ca_36, cs_36, ca_37, cs_37, ca_38, cs_38, ca_39, cs_39, ca_40, cs_40, ca_41, cs_41, ca_42, cs_42, car_20, car_21, car_22, cq11_3, cq11_4, cq3_1, cq0_0, cq0_1, if_true, if_false, Option.bind_some, cb_e, lt_e, nI_1, hs_nar2, nh4, upd_at, vau_at, ca_42_0, cs_42_0, z1, u1, hr2, e1]
            exact i1
          · rw [(i3.2.1 j hj).1, (i3.2.1 j hj).2]
            exact tr1.2.1 j (by omega)
        · rw [if_neg cS]
          obtain ⟨F3, A3, b1, b3, b4⟩ := bad _ _ F2 A2 cS u2 u3 u1
          exact ⟨F3, A3, b1, b3, b4, fun q => absurd q cS⟩
      · rw [if_neg c4] at z2 ⊢
        obtain ⟨F2, A2, u1, u2, u3⟩ := hP (nI n) (c0 + L.length) 2 t F1 A (by decide) z2 f15 (by omega) h10
        obtain ⟨F3, A3, b1, b3, b4⟩ := bad _ _ F2 A2 (by decide) u2 u3 u1
        exact ⟨F3, A3, b1, b3, b4, fun q => (by cases q)⟩
    rw [fX3_part_b7, if_neg (show ¬ (400 : Int32) < nI i from nI_nlt (a := 400) (by omega) (by decide))]
    simp -implicitDefEqProofs (disch := first | assumption | omega | decide | exact And.intro (by omega) (by omega)) only [cck_0, cr0_0, cr0_1, cr0_2, cr0_3, cg0_4, cp0_4, cg0_5, cp0_5, cck_1, cg1_0, cp1_0, cr1_1, cr1_2, cr1_3, cg1_4, cp1_4, cg1_5, cp1_5, cr1_6, cr1_7, cck_2, cr2_0, cr2_1, cr2_2, cck_3, cr3_0, cr3_1, cg3_2, cp3_2, cg3_3, cp3_3, cg3_4, cp3_4, cg3_5, cp3_5, cg3_6, cp3_6, cg3_7, cp3_7, cg3_8, cp3_8, cck_4, cg4_0, cp4_0, cg4_1, cp4_1, cr4_2, cr4_3, cr4_4, cr4_5, cck_5, cg5_0, cp5_0, cr5_1, cr5_2, cr5_3, cck_6, cg6_0, cp6_0, cg6_1, cp6_1, cck_7, cg7_0, cp7_0, cg7_1, cp7_1, cr7_2, cr7_3, cr7_4, cr7_5, cr7_6, cr7_7, cr7_8, cck_8, cr8_0, cr8_1, cck_9, cr9_0, cr9_1, cr9_2, cr9_3, cg9_4, cp9_4, cck_10, cg10_0, cp10_0, cr10_1, cr10_2, cr10_3, cr10_4, cg10_5, cp10_5, cr10_6, cr10_7, cr10_8, cg10_9, cp10_9, cg10_10, cp10_10, cr10_11, cr10_12, cr10_13, cr10_14, cck_11, cr11_0, cg11_1, cp11_1, cr11_2, cr11_3, cr11_4, cr11_5, cr11_6, cr11_7, cr11_8, cr11_9, cr11_10, cr11_11, cr11_12, cr11_13, cr11_14, ca_30, cs_30, ca_31, cs_31, ca_32, cs_32, ca_33, cs_33, ca_34, cs_34, ca_35, cs_35, ca_36, cs_36, ca_37, cs_37, ca_38, cs_38, ca_39, cs_39, ca_40, cs_40, ca_41, cs_41, ca_42, cs_42, car_20, car_21, car_22, cq11_3, cq11_4, cq3_1, cq0_0, cq0_1, if_true, if_false, Option.bind_some, cb_e, lt_e, nI_1, hs_nar2, nh4, upd_at, vau_at, ca_42_0, cs_42_0, f3', x2, k4]
    by_cases cx : K t = 42
    · rw [if_pos (show nI (K t) = (42 : Int32) from (keq 42 (by decide)).2 cx)]
      exact go (Or.inl cx)
    · rw [if_neg (show ¬ nI (K t) = (42 : Int32) from fun q => cx ((keq 42 (by decide)).1 q))]
      by_cases cy : K t = 47
      · rw [if_pos (show nI (K t) = (47 : Int32) from (keq 47 (by decide)).2 cy)]
        exact go (Or.inr cy)
      · rw [if_neg (show ¬ nI (K t) = (47 : Int32) from fun q => cy ((keq 47 (by decide)).1 q)), pL, if_neg (fun q => q.elim cx cy)]
        exact ⟨F, A, rfl, h5, ⟨⟨fun _ _ _ => rfl, fun _ _ => rfl, fun _ _ _ _ => rfl, fun _ _ _ => rfl⟩, fun _ _ => ⟨rfl, rfl⟩, _, h6, by omega, by omega⟩, fun _ => ⟨h6, h9⟩⟩
theorem c_part_im {U : Nat → Int32 → Sto → Option (Unit × Sto)} {S : Nat → Nat → Rs} {hh : Nat → Nat} {n0 : Nat} (hK : TkK M K V) (hd : d = 7 ∨ d = 22) (hr : r 2 = d) (hS : SpOK n0 M hh S) (hU : CIm d M K V PL B r U S n0) (hP : CPs d M K V PL B r U) : CIm d M K V PL B r (fX3_partg U) (pJ K 42 47 S) n0 := by
  have hM := hK.1
  intro n t c F A hn0 hn ht hpo h5 hc htk
  obtain ⟨F1, A1, u1, u2, u3, u7⟩ := hU n t c F A hn0 hn ht hpo h5 hc htk
  obtain ⟨⟨s1, s2, s3⟩, s4⟩ := hS n t hn0 hn ht
  unfold fX3_partg pJ
  by_cases cS : (S n t).1 = 0
  · rw [if_pos cS]
    obtain ⟨w1, w2, w3⟩ := s4 cS
    obtain ⟨y1, y2⟩ := u7 cS
    rw [cS] at u2
    obtain ⟨F2, A2, i1, i2, i3, i7⟩ := c_part_go hK hd hr hS hU hP hn0 hn (c0 := c) 401 0 (S n t).2.1 (S n t).2.2 FU F1 A1 (by omega) (by decide) (by omega) s2 u2 y1 (by omega) y2 (htk.fr hd u3.1)
    have i1' : fX3_part_b7 U FU 37 (nI n) 0 (mkC F1 A1 B r) = some ((), mkC F2 A2 B r) := i1
    refine ⟨F2, A2, ?_, i2, u3.tr i3 (Nat.le_refl _), i7⟩
    simp -implicitDefEqProofs (disch := first | assumption | omega | decide | exact And.intro (by omega) (by omega)) only [cck_0, cr0_0, cr0_1, cr0_2, cr0_3, cg0_4, cp0_4, cg0_5, cp0_5, cck_1, cg1_0, cp1_0, cr1_1, cr1_2, cr1_3, cg1_4, cp1_4, cg1_5, cp1_5, cr1_6, cr1_7, cck_2, cr2_0, cr2_1, cr2_2, cck_3, cr3_0, cr3_1, cg3_2, cp3_2, cg3_3, cp3_3, cg3_4, cp3_4, cg3_5, cp3_5, cg3_6, cp3_6, cg3_7, cp3_7, cg3_8, cp3_8, cck_4, cg4_0, cp4_0, cg4_1, cp4_1, cr4_2, cr4_3, cr4_4, cr4_5, cck_5, cg5_0, cp5_0, cr5_1, cr5_2, cr5_3, cck_6, cg6_0, cp6_0, cg6_1, cp6_1, cck_7, cg7_0, cp7_0, cg7_1, cp7_1, cr7_2, cr7_3, cr7_4, cr7_5, cr7_6, cr7_7, cr7_8, cck_8, cr8_0, cr8_1, cck_9, cr9_0, cr9_1, cr9_2, cr9_3, cg9_4, cp9_4, cck_10, cg10_0, cp10_0, cr10_1, cr10_2, cr10_3, cr10_4, cg10_5, cp10_5, cr10_6, cr10_7, cr10_8, cg10_9, cp10_9, cg10_10, cp10_10, cr10_11, cr10_12, cr10_13, cr10_14, cck_11, cr11_0, cg11_1, cp11_1, cr11_2, cr11_3, cr11_4, cr11_5, cr11_6, cr11_7, cr11_8, cr11_9, cr11_10, cr11_11, cr11_12, cr11_13, cr11_14, ca_30, cs_30, ca_31, cs_31, ca_32, cs_32, ca_33, cs_33, ca_34, cs_34, ca_35, cs_35, ca_36, cs_36, ca_37, cs_37, ca_38, cs_38, ca_39, cs_39, ca_40, cs_40, ca_41, cs_41, ca_42, cs_42, car_20, car_21, car_22, cq11_3, cq11_4, cq3_1, cq0_0, cq0_1, if_true, if_false, Option.bind_some, cb_e, lt_e, nI_1, hs_nar2, nh4, upd_at, vau_at, ca_42_0, cs_42_0, u1, i1']
  · rw [if_neg cS]
    have bd := c_part_bad (B := B) (r := r) (U := U) (fuel := FU) (i := 0) (c := 0) (n := nI n) (A := A1) (by decide) cS u2
    have bd' : fX3_part_b7 U FU 37 (nI n) 0 (mkC F1 A1 B r) = some ((), mkC F1 A1 B r) := bd
    refine ⟨F1, A1, ?_, u2, u3, fun q => absurd q cS⟩
    simp -implicitDefEqProofs (disch := first | assumption | omega | decide | exact And.intro (by omega) (by omega)) only [cck_0, cr0_0, cr0_1, cr0_2, cr0_3, cg0_4, cp0_4, cg0_5, cp0_5, cck_1, cg1_0, cp1_0, cr1_1, cr1_2, cr1_3, cg1_4, cp1_4, cg1_5, cp1_5, cr1_6, cr1_7, cck_2, cr2_0, cr2_1, cr2_2, cck_3, cr3_0, cr3_1, cg3_2, cp3_2, cg3_3, cp3_3, cg3_4, cp3_4, cg3_5, cp3_5, cg3_6, cp3_6, cg3_7, cp3_7, cg3_8, cp3_8, cck_4, cg4_0, cp4_0, cg4_1, cp4_1, cr4_2, cr4_3, cr4_4, cr4_5, cck_5, cg5_0, cp5_0, cr5_1, cr5_2, cr5_3, cck_6, cg6_0, cp6_0, cg6_1, cp6_1, cck_7, cg7_0, cp7_0, cg7_1, cp7_1, cr7_2, cr7_3, cr7_4, cr7_5, cr7_6, cr7_7, cr7_8, cck_8, cr8_0, cr8_1, cck_9, cr9_0, cr9_1, cr9_2, cr9_3, cg9_4, cp9_4, cck_10, cg10_0, cp10_0, cr10_1, cr10_2, cr10_3, cr10_4, cg10_5, cp10_5, cr10_6, cr10_7, cr10_8, cg10_9, cp10_9, cg10_10, cp10_10, cr10_11, cr10_12, cr10_13, cr10_14, cck_11, cr11_0, cg11_1, cp11_1, cr11_2, cr11_3, cr11_4, cr11_5, cr11_6, cr11_7, cr11_8, cr11_9, cr11_10, cr11_11, cr11_12, cr11_13, cr11_14, ca_30, cs_30, ca_31, cs_31, ca_32, cs_32, ca_33, cs_33, ca_34, cs_34, ca_35, cs_35, ca_36, cs_36, ca_37, cs_37, ca_38, cs_38, ca_39, cs_39, ca_40, cs_40, ca_41, cs_41, ca_42, cs_42, car_20, car_21, car_22, cq11_3, cq11_4, cq3_1, cq0_0, cq0_1, if_true, if_false, Option.bind_some, cb_e, lt_e, nI_1, hs_nar2, nh4, upd_at, vau_at, ca_42_0, cs_42_0, u1, bd']
theorem c_expression_bad {U : Nat → Int32 → Sto → Option (Unit × Sto)} {fuel fa tp c i : Nat} {n : Int32} {F A : Nat → Nat → Int32} (hfu : 0 < fuel) (hfa : ¬ fa = 0) (hpo : CPo F PL fa tp) : fX3_expression_b7 U fuel 37 n (nI i) (mkC F A B r) = some ((), mkC F A B r) := by
  obtain ⟨fuel, rfl⟩ : ∃ q, fuel = q + 1 := ⟨fuel - 1, by omega⟩
  have g3 := hpo.1
  have gz : ¬ nI fa = 0 := nI_ne0 (by omega) (by have := hpo.2.2.2; omega)
  rw [fX3_expression_b7]
  split
  · rfl
  · simp -implicitDefEqProofs (disch := first | assumption | omega | decide | exact And.intro (by omega) (by omega)) only [cck_0, cr0_0, cr0_1, cr0_2, cr0_3, cg0_4, cp0_4, cg0_5, cp0_5, cck_1, cg1_0, cp1_0, cr1_1, cr1_2, cr1_3, cg1_4, cp1_4, cg1_5, cp1_5, cr1_6, cr1_7, cck_2, cr2_0, cr2_1, cr2_2, cck_3, cr3_0, cr3_1, cg3_2, cp3_2, cg3_3, cp3_3, cg3_4, cp3_4, cg3_5, cp3_5, cg3_6, cp3_6, cg3_7, cp3_7, cg3_8, cp3_8, cck_4, cg4_0, cp4_0, cg4_1, cp4_1, cr4_2, cr4_3, cr4_4, cr4_5, cck_5, cg5_0, cp5_0, cr5_1, cr5_2, cr5_3, cck_6, cg6_0, cp6_0, cg6_1, cp6_1, cck_7, cg7_0, cp7_0, cg7_1, cp7_1, cr7_2, cr7_3, cr7_4, cr7_5, cr7_6, cr7_7, cr7_8, cck_8, cr8_0, cr8_1, cck_9, cr9_0, cr9_1, cr9_2, cr9_3, cg9_4, cp9_4, cck_10, cg10_0, cp10_0, cr10_1, cr10_2, cr10_3, cr10_4, cg10_5, cp10_5, cr10_6, cr10_7, cr10_8, cg10_9, cp10_9, cg10_10, cp10_10, cr10_11, cr10_12, cr10_13, cr10_14, cck_11, cr11_0, cg11_1, cp11_1, cr11_2, cr11_3, cr11_4, cr11_5, cr11_6, cr11_7, cr11_8, cr11_9, cr11_10, cr11_11, cr11_12, cr11_13, cr11_14, ca_30, cs_30, ca_31, cs_31, ca_32, cs_32, ca_33, cs_33, ca_34, cs_34, ca_35, cs_35, ca_36, cs_36, ca_37, cs_37, ca_38, cs_38, ca_39, cs_39, ca_40, cs_40, ca_41, cs_41, ca_42, cs_42, car_20, car_21, car_22, cq11_3, cq11_4, cq3_1, cq0_0, cq0_1, if_true, if_false, Option.bind_some, cb_e, lt_e, nI_1, hs_nar2, nh4, upd_at, vau_at, ca_42_0, cs_42_0, g3, if_neg gz]
theorem c_expression_post {U : Nat → Int32 → Sto → Option (Unit × Sto)} (hP : CPs d M K V PL B r U) : CPs d M K V PL B r (fX3_expressiong U) := by
  intro n c fa tp F A hfa hpo h5 hc htk
  obtain ⟨F1, A1, u1, u2, u3⟩ := hP n c fa tp F A hfa hpo h5 hc htk
  have bd := c_expression_bad (B := B) (r := r) (U := U) (fuel := FU) (i := 0) (c := 0) (n := n) (A := A1) (by decide) hfa u2
  have bd' : fX3_expression_b7 U FU 37 n 0 (mkC F1 A1 B r) = some ((), mkC F1 A1 B r) := bd
  refine ⟨F1, A1, ?_, u2, u3⟩
  unfold fX3_expressiong
  simp -implicitDefEqProofs (disch := first | assumption | omega | decide | exact And.intro (by omega) (by omega)) only [cck_0, cr0_0, cr0_1, cr0_2, cr0_3, cg0_4, cp0_4, cg0_5, cp0_5, cck_1, cg1_0, cp1_0, cr1_1, cr1_2, cr1_3, cg1_4, cp1_4, cg1_5, cp1_5, cr1_6, cr1_7, cck_2, cr2_0, cr2_1, cr2_2, cck_3, cr3_0, cr3_1, cg3_2, cp3_2, cg3_3, cp3_3, cg3_4, cp3_4, cg3_5, cp3_5, cg3_6, cp3_6, cg3_7, cp3_7, cg3_8, cp3_8, cck_4, cg4_0, cp4_0, cg4_1, cp4_1, cr4_2, cr4_3, cr4_4, cr4_5, cck_5, cg5_0, cp5_0, cr5_1, cr5_2, cr5_3, cck_6, cg6_0, cp6_0, cg6_1, cp6_1, cck_7, cg7_0, cp7_0, cg7_1, cp7_1, cr7_2, cr7_3, cr7_4, cr7_5, cr7_6, cr7_7, cr7_8, cck_8, cr8_0, cr8_1, cck_9, cr9_0, cr9_1, cr9_2, cr9_3, cg9_4, cp9_4, cck_10, cg10_0, cp10_0, cr10_1, cr10_2, cr10_3, cr10_4, cg10_5, cp10_5, cr10_6, cr10_7, cr10_8, cg10_9, cp10_9, cg10_10, cp10_10, cr10_11, cr10_12, cr10_13, cr10_14, cck_11, cr11_0, cg11_1, cp11_1, cr11_2, cr11_3, cr11_4, cr11_5, cr11_6, cr11_7, cr11_8, cr11_9, cr11_10, cr11_11, cr11_12, cr11_13, cr11_14, ca_30, cs_30, ca_31, cs_31, ca_32, cs_32, ca_33, cs_33, ca_34, cs_34, ca_35, cs_35, ca_36, cs_36, ca_37, cs_37, ca_38, cs_38, ca_39, cs_39, ca_40, cs_40, ca_41, cs_41, ca_42, cs_42, car_20, car_21, car_22, cq11_3, cq11_4, cq3_1, cq0_0, cq0_1, if_true, if_false, Option.bind_some, cb_e, lt_e, nI_1, hs_nar2, nh4, upd_at, vau_at, ca_42_0, cs_42_0, u1, bd']
theorem c_expression_go {U : Nat → Int32 → Sto → Option (Unit × Sto)} {S : Nat → Nat → Rs} {hh : Nat → Nat} {n0 : Nat} (hK : TkK M K V) (hd : d = 7 ∨ d = 22) (hr : r 2 = d) (hS : SpOK n0 M hh S) (hU : CIm d M K V PL B r U S n0) (hP : CPs d M K V PL B r U) {n : Nat} (hn0 : n0 ≤ n) (hn : n ≤ 6) {c0 : Nat} : ∀ m i t L fuel (F A : Nat → Nat → Int32), 401 ≤ t + m → m < fuel → i ≤ t → t ≤ M → CPo F PL 0 t → F d 5 = nI (c0 + L.length) → c0 + L.length ≤ t → SegC A d c0 L → CTk A B M K V PL → ∃ F' A', fX3_expression_b7 U fuel 37 (nI n) (nI i) (mkC F A B r) = some ((), mkC F' A' B r) ∧ CPo F' PL (pL K 43 45 S m n t L).1 (pL K 43 45 S m n t L).2.1 ∧ CTr d c0 F F' A A' ∧ ((pL K 43 45 S m n t L).1 = 0 → F' d 5 = nI (c0 + (pL K 43 45 S m n t L).2.2.length) ∧ SegC A' d c0 (pL K 43 45 S m n t L).2.2) := by
  have hM := hK.1
  intro m
  induction m with
  | zero =>
    intro i t L fuel F A h1 h2 h3 h4 h5 h6 h8 h9 h10
    omega
  | succ m ih =>
    intro i t L fuel F A h1 h2 h3 h4 h5 h6 h8 h9 h10
    obtain ⟨fuel, rfl⟩ : ∃ q, fuel = q + 1 := ⟨fuel - 1, by omega⟩
    have f3 := h5.1
    obtain ⟨x, x1, x2, x3⟩ := h5.2.1
    rw [x3 rfl] at x2
    have k4 := (h10 t h4).1
    have ht402 : t < 402 := by omega
    have kl := vk_lt (hK.2.1 t h4).1
    have f3' : F 37 3 = 0 := f3
    have keq : ∀ z : Nat, z < 256 → (nI (K t) = nI z ↔ K t = z) := fun z hz => nI_eq (by omega) (by omega)
    have go : (K t = 43 ∨ K t = 45) → ∃ F' A', fX3_expression_b47 U (fX3_expression_b7 U fuel) 37 (nI n) (nI i) (nI (K t)) (mkC F A B r) = some ((), mkC F' A' B r) ∧ CPo F' PL (pL K 43 45 S (m + 1) n t L).1 (pL K 43 45 S (m + 1) n t L).2.1 ∧ CTr d c0 F F' A A' ∧ ((pL K 43 45 S (m + 1) n t L).1 = 0 → F' d 5 = nI (c0 + (pL K 43 45 S (m + 1) n t L).2.2.length) ∧ SegC A' d c0 (pL K 43 45 S (m + 1) n t L).2.2) := by
      intro hc
      rw [pL, if_pos hc]
      have hk18 : ¬ K t = 18 := by omega
      obtain ⟨F1, z1, z2, z3, z4⟩ := c_take (B := B) (r := r) hK h4 h5 h10 (k := K t) (by omega) hk18
      have tk1 : tkk K (K t) t = if t < 400 then (0, t + 1) else (2, t) := by unfold tkk; rw [if_pos rfl]
      rw [tk1] at z2
      have f15 : F1 d 5 = nI (c0 + L.length) := by rw [z3 d (by omega)]; exact h6
      have fr1 : CTr d (c0 + L.length) F F1 A A := ⟨⟨fun c q1 _ => z3 c q1, fun k _ => by rw [z3 d (by omega)], z4, fun _ _ _ => rfl⟩, fun _ _ => ⟨rfl, rfl⟩, _, f15, Nat.le_refl _, by omega⟩
      -- the end behind a fault
      have bad : ∀ fa tp (F2 A2 : Nat → Nat → Int32), ¬ fa = 0 → CPo F2 PL fa tp → CTr d (c0 + L.length) F1 F2 A A2 → U 37 (nI n) (mkC F1 A B r) = some ((), mkC F2 A2 B r) → ∃ F' A', fX3_expression_b47 U (fX3_expression_b7 U fuel) 37 (nI n) (nI i) (nI (K t)) (mkC F A B r) = some ((), mkC F' A' B r) ∧ CPo F' PL fa tp ∧ CTr d c0 F F' A A' := by
        intro fa tp F2 A2 hfa hpo ht2 hu
        obtain ⟨c2, hc2, hc3, hc4⟩ := ht2.2.2
        obtain ⟨v, F3, A3, e1, e3, e2, e7⟩ := c_emit (B := B) (r := r) hd hc2 hc4 (A := A2) (nI (K t)) 0
        have bd := c_expression_bad (B := B) (r := r) (U := U) (fuel := fuel) (i := i + 1) (c := 0) (n := nI n) (A := A3) (by omega) hfa (hpo.eq e3)
        have hr2 : gR (mkC F2 A2 B r) 3 37 1 = some d := by rw [cr3_1 rfl, hr]
        refine ⟨F3, A3, ?_, hpo.eq e3, fr1.tr (ht2.tr e2 (by omega)) (Nat.le_refl _) |>.tr ⟨⟨fun _ _ _ => rfl, fun _ _ => rfl, fun _ _ _ _ => rfl, fun _ _ _ => rfl⟩, fun _ _ => ⟨rfl, rfl⟩, e2.2.2⟩ (by omega) |> fun w => ⟨w.1, fun j hj => w.2.1 j (by omega), w.2.2.elim (fun c' hh => ⟨c', hh.1, by omega, hh.2.2⟩)⟩⟩
        unfold fX3_expression_b47
        simp -implicitDefEqProofs (disch := first | assumption | omega | decide | exact And.intro (by omega) (by omega)) only [cck_0, cr0_0, cr0_1, cr0_2, cr0_3, cg0_4, cp0_4, cg0_5, cp0_5, cck_1, cg1_0, cp1_0, cr1_1, cr1_2, cr1_3, cg1_4, cp1_4, cg1_5, cp1_5, cr1_6, cr1_7, cck_2, cr2_0, cr2_1, cr2_2, cck_3, cr3_0, cr3_1, cg3_2, cp3_2, cg3_3, cp3_3, cg3_4, cp3_4, cg3_5, cp3_5, cg3_6, cp3_6, cg3_7, cp3_7, cg3_8, cp3_8, cck_4, cg4_0, cp4_0, cg4_1, cp4_1, cr4_2, cr4_3, cr4_4, cr4_5, cck_5, cg5_0, cp5_0, cr5_1, cr5_2, cr5_3, cck_6, cg6_0, cp6_0, cg6_1, cp6_1, cck_7, cg7_0, cp7_0, cg7_1, cp7_1, cr7_2, cr7_3, cr7_4, cr7_5, cr7_6, cr7_7, cr7_8, cck_8, cr8_0, cr8_1, cck_9, cr9_0, cr9_1, cr9_2, cr9_3, cg9_4, cp9_4, cck_10, cg10_0, cp10_0, cr10_1, cr10_2, cr10_3, cr10_4, cg10_5, cp10_5, cr10_6, cr10_7, cr10_8, cg10_9, cp10_9, cg10_10, cp10_10, cr10_11, cr10_12, cr10_13, cr10_14, cck_11, cr11_0, cg11_1, cp11_1, cr11_2, cr11_3, cr11_4, cr11_5, cr11_6, cr11_7, cr11_8, cr11_9, cr11_10, cr11_11, cr11_12, cr11_13, cr11_14, ca_30, cs_30, ca_31, cs_31, ca_32, cs_32, ca_33, cs_33, ca_34, cs_34, ca_35, cs_35, ca_36, cs_36, ca_37, cs_37, ca_38, cs_38, ca_39, cs_39, ca_40, cs_40, ca_41, cs_41, ca_42, cs_42, car_20, car_21, car_22, cq11_3, cq11_4, cq3_1, cq0_0, cq0_1, if_true, if_false, Option.bind_some, cb_e, lt_e, nI_1, hs_nar2, nh4, upd_at, vau_at, ca_42_0, cs_42_0, z1, hu, hr2, e1]
        exact bd
      by_cases c4 : t < 400
      · rw [if_pos c4] at z2 ⊢
        have t1 := hK.on h4 hk18 c4
        obtain ⟨F2, A2, u1, u2, u3, u7⟩ := hU n (t + 1) (c0 + L.length) F1 A hn0 hn t1 z2 f15 (by omega) h10
        obtain ⟨⟨s1, s2, s3⟩, s4⟩ := hS n (t + 1) hn0 hn t1
        have htk2 : CTk A2 B M K V PL := h10.fr hd u3.1
        have hr2 : gR (mkC F2 A2 B r) 3 37 1 = some d := by rw [cr3_1 rfl, hr]
        by_cases cS : (S n (t + 1)).1 = 0
        · rw [if_pos cS]
          obtain ⟨w1, w2, w3⟩ := s4 cS
          obtain ⟨y1, y2⟩ := u7 cS
          rw [cS] at u2
          obtain ⟨v, F3, A3, e1, e3, e2, e7⟩ := c_emit (B := B) (r := r) hd y1 (by omega) (A := A2) (nI (K t)) 0
          obtain ⟨e8, e9, e10, e11⟩ := e7 (by omega)
          have segL : SegC A3 d c0 (L ++ (S n (t + 1)).2.2 ++ [(sgo (K t), 0)]) := by
            refine SegC.app _ (SegC.app _ (h9.eq (fun j q1 q2 => ?_)) (y2.eq (fun j q1 q2 => ?_))) ⟨⟨?_, fun q => absurd q (by have := (sgo_b (K t)).1; show ¬ sgo (K t) < 2; omega)⟩, trivial⟩
            · rw [(e2.2.1 j (by omega)).1, (e2.2.1 j (by omega)).2]
              exact u3.2.1 j (by omega)
            · exact e2.2.1 j (by omega)
            · rw [List.length_append, ← Nat.add_assoc, e10, upd_at]
              congr 1
              rcases hc with hc | hc
              · rw [hc]; rfl
              · rw [hc]; rfl
          have el : c0 + (L ++ (S n (t + 1)).2.2 ++ [(sgo (K t), 0)]).length = c0 + L.length + (S n (t + 1)).2.2.length + 1 := by
            rw [List.length_append, List.length_append, List.length_singleton]
            omega
          obtain ⟨F4, A4, i1, i2, i3, i7⟩ := ih (i + 1) (S n (t + 1)).2.1 (L ++ (S n (t + 1)).2.2 ++ [(sgo (K t), 0)]) fuel F3 A3 (by omega) (by omega) (by omega) s2 (u2.eq e3) (by rw [el]; exact e9) (by rw [el]; omega) segL (htk2.fr hd e2.1)
          have tr1 : CTr d (c0 + L.length) F F3 A A3 := fr1.tr (u3.tr e2 (by omega)) (Nat.le_refl _)
          refine ⟨F4, A4, ?_, i2, ⟨tr1.1.tr i3.1, fun j hj => ?_, i3.2.2⟩, i7⟩
          · unfold fX3_expression_b47
            simp -implicitDefEqProofs (disch := first | assumption | omega | decide | exact And.intro (by omega) (by omega)) only [cck_0, cr0_0, cr0_1, cr0_2, cr0_3, cg0_4, cp0_4, cg0_5, cp0_5, cck_1, cg1_0, cp1_0, cr1_1, cr1_2, cr1_3, cg1_4, cp1_4, cg1_5, cp1_5, cr1_6, cr1_7, cck_2, cr2_0, cr2_1, cr2_2, cck_3, cr3_0, cr3_1, cg3_2, cp3_2, cg3_3, cp3_3, cg3_4, cp3_4, cg3_5, cp3_5, cg3_6, cp3_6, cg3_7, cp3_7, cg3_8, cp3_8, cck_4, cg4_0, cp4_0, cg4_1, cp4_1, cr4_2, cr4_3, cr4_4, cr4_5, cck_5, cg5_0, cp5_0, cr5_1, cr5_2, cr5_3, cck_6, cg6_0, cp6_0, cg6_1, cp6_1, cck_7, cg7_0, cp7_0, cg7_1, cp7_1, cr7_2, cr7_3, cr7_4, cr7_5, cr7_6, cr7_7, cr7_8, cck_8, cr8_0, cr8_1, cck_9, cr9_0, cr9_1, cr9_2, cr9_3, cg9_4, cp9_4, cck_10, cg10_0, cp10_0, cr10_1, cr10_2, cr10_3, cr10_4, cg10_5, cp10_5, cr10_6, cr10_7, cr10_8, cg10_9, cp10_9, cg10_10, cp10_10, cr10_11, cr10_12, cr10_13, cr10_14, cck_11, cr11_0, cg11_1, cp11_1, cr11_2, cr11_3, cr11_4, cr11_5, cr11_6, cr11_7, cr11_8, cr11_9, cr11_10, cr11_11, cr11_12, cr11_13, cr11_14, ca_30, cs_30, ca_31, cs_31, ca_32, cs_32, ca_33, cs_33, ca_34, cs_34, ca_35, cs_35, ca_36, cs_36, ca_37, cs_37, ca_38, cs_38, ca_39, cs_39, ca_40, cs_40, ca_41, cs_41, ca_42, cs_42, car_20, car_21, car_22, cq11_3, cq11_4, cq3_1, cq0_0, cq0_1, if_true, if_false, Option.bind_some, cb_e, lt_e, nI_1, hs_nar2, nh4, upd_at, vau_at, ca_42_0, cs_42_0, z1, u1, hr2, e1]
            exact i1
          · rw [(i3.2.1 j hj).1, (i3.2.1 j hj).2]
            exact tr1.2.1 j (by omega)
        · rw [if_neg cS]
          obtain ⟨F3, A3, b1, b3, b4⟩ := bad _ _ F2 A2 cS u2 u3 u1
          exact ⟨F3, A3, b1, b3, b4, fun q => absurd q cS⟩
      · rw [if_neg c4] at z2 ⊢
        obtain ⟨F2, A2, u1, u2, u3⟩ := hP (nI n) (c0 + L.length) 2 t F1 A (by decide) z2 f15 (by omega) h10
        obtain ⟨F3, A3, b1, b3, b4⟩ := bad _ _ F2 A2 (by decide) u2 u3 u1
        exact ⟨F3, A3, b1, b3, b4, fun q => (by cases q)⟩
    rw [fX3_expression_b7, if_neg (show ¬ (400 : Int32) < nI i from nI_nlt (a := 400) (by omega) (by decide))]
    simp -implicitDefEqProofs (disch := first | assumption | omega | decide | exact And.intro (by omega) (by omega)) only [cck_0, cr0_0, cr0_1, cr0_2, cr0_3, cg0_4, cp0_4, cg0_5, cp0_5, cck_1, cg1_0, cp1_0, cr1_1, cr1_2, cr1_3, cg1_4, cp1_4, cg1_5, cp1_5, cr1_6, cr1_7, cck_2, cr2_0, cr2_1, cr2_2, cck_3, cr3_0, cr3_1, cg3_2, cp3_2, cg3_3, cp3_3, cg3_4, cp3_4, cg3_5, cp3_5, cg3_6, cp3_6, cg3_7, cp3_7, cg3_8, cp3_8, cck_4, cg4_0, cp4_0, cg4_1, cp4_1, cr4_2, cr4_3, cr4_4, cr4_5, cck_5, cg5_0, cp5_0, cr5_1, cr5_2, cr5_3, cck_6, cg6_0, cp6_0, cg6_1, cp6_1, cck_7, cg7_0, cp7_0, cg7_1, cp7_1, cr7_2, cr7_3, cr7_4, cr7_5, cr7_6, cr7_7, cr7_8, cck_8, cr8_0, cr8_1, cck_9, cr9_0, cr9_1, cr9_2, cr9_3, cg9_4, cp9_4, cck_10, cg10_0, cp10_0, cr10_1, cr10_2, cr10_3, cr10_4, cg10_5, cp10_5, cr10_6, cr10_7, cr10_8, cg10_9, cp10_9, cg10_10, cp10_10, cr10_11, cr10_12, cr10_13, cr10_14, cck_11, cr11_0, cg11_1, cp11_1, cr11_2, cr11_3, cr11_4, cr11_5, cr11_6, cr11_7, cr11_8, cr11_9, cr11_10, cr11_11, cr11_12, cr11_13, cr11_14, ca_30, cs_30, ca_31, cs_31, ca_32, cs_32, ca_33, cs_33, ca_34, cs_34, ca_35, cs_35, ca_36, cs_36, ca_37, cs_37, ca_38, cs_38, ca_39, cs_39, ca_40, cs_40, ca_41, cs_41, ca_42, cs_42, car_20, car_21, car_22, cq11_3, cq11_4, cq3_1, cq0_0, cq0_1, if_true, if_false, Option.bind_some, cb_e, lt_e, nI_1, hs_nar2, nh4, upd_at, vau_at, ca_42_0, cs_42_0, f3', x2, k4]
    by_cases cx : K t = 43
    · rw [if_pos (show nI (K t) = (43 : Int32) from (keq 43 (by decide)).2 cx)]
      exact go (Or.inl cx)
    · rw [if_neg (show ¬ nI (K t) = (43 : Int32) from fun q => cx ((keq 43 (by decide)).1 q))]
      by_cases cy : K t = 45
      · rw [if_pos (show nI (K t) = (45 : Int32) from (keq 45 (by decide)).2 cy)]
        exact go (Or.inr cy)
      · rw [if_neg (show ¬ nI (K t) = (45 : Int32) from fun q => cy ((keq 45 (by decide)).1 q)), pL, if_neg (fun q => q.elim cx cy)]
        exact ⟨F, A, rfl, h5, ⟨⟨fun _ _ _ => rfl, fun _ _ => rfl, fun _ _ _ _ => rfl, fun _ _ _ => rfl⟩, fun _ _ => ⟨rfl, rfl⟩, _, h6, by omega, by omega⟩, fun _ => ⟨h6, h9⟩⟩
theorem c_expression_im {U : Nat → Int32 → Sto → Option (Unit × Sto)} {S : Nat → Nat → Rs} {hh : Nat → Nat} {n0 : Nat} (hK : TkK M K V) (hd : d = 7 ∨ d = 22) (hr : r 2 = d) (hS : SpOK n0 M hh S) (hU : CIm d M K V PL B r U S n0) (hP : CPs d M K V PL B r U) : CIm d M K V PL B r (fX3_expressiong U) (pJ K 43 45 S) n0 := by
  have hM := hK.1
  intro n t c F A hn0 hn ht hpo h5 hc htk
  obtain ⟨F1, A1, u1, u2, u3, u7⟩ := hU n t c F A hn0 hn ht hpo h5 hc htk
  obtain ⟨⟨s1, s2, s3⟩, s4⟩ := hS n t hn0 hn ht
  unfold fX3_expressiong pJ
  by_cases cS : (S n t).1 = 0
  · rw [if_pos cS]
    obtain ⟨w1, w2, w3⟩ := s4 cS
    obtain ⟨y1, y2⟩ := u7 cS
    rw [cS] at u2
    obtain ⟨F2, A2, i1, i2, i3, i7⟩ := c_expression_go hK hd hr hS hU hP hn0 hn (c0 := c) 401 0 (S n t).2.1 (S n t).2.2 FU F1 A1 (by omega) (by decide) (by omega) s2 u2 y1 (by omega) y2 (htk.fr hd u3.1)
    have i1' : fX3_expression_b7 U FU 37 (nI n) 0 (mkC F1 A1 B r) = some ((), mkC F2 A2 B r) := i1
    refine ⟨F2, A2, ?_, i2, u3.tr i3 (Nat.le_refl _), i7⟩
    simp -implicitDefEqProofs (disch := first | assumption | omega | decide | exact And.intro (by omega) (by omega)) only [cck_0, cr0_0, cr0_1, cr0_2, cr0_3, cg0_4, cp0_4, cg0_5, cp0_5, cck_1, cg1_0, cp1_0, cr1_1, cr1_2, cr1_3, cg1_4, cp1_4, cg1_5, cp1_5, cr1_6, cr1_7, cck_2, cr2_0, cr2_1, cr2_2, cck_3, cr3_0, cr3_1, cg3_2, cp3_2, cg3_3, cp3_3, cg3_4, cp3_4, cg3_5, cp3_5, cg3_6, cp3_6, cg3_7, cp3_7, cg3_8, cp3_8, cck_4, cg4_0, cp4_0, cg4_1, cp4_1, cr4_2, cr4_3, cr4_4, cr4_5, cck_5, cg5_0, cp5_0, cr5_1, cr5_2, cr5_3, cck_6, cg6_0, cp6_0, cg6_1, cp6_1, cck_7, cg7_0, cp7_0, cg7_1, cp7_1, cr7_2, cr7_3, cr7_4, cr7_5, cr7_6, cr7_7, cr7_8, cck_8, cr8_0, cr8_1, cck_9, cr9_0, cr9_1, cr9_2, cr9_3, cg9_4, cp9_4, cck_10, cg10_0, cp10_0, cr10_1, cr10_2, cr10_3, cr10_4, cg10_5, cp10_5, cr10_6, cr10_7, cr10_8, cg10_9, cp10_9, cg10_10, cp10_10, cr10_11, cr10_12, cr10_13, cr10_14, cck_11, cr11_0, cg11_1, cp11_1, cr11_2, cr11_3, cr11_4, cr11_5, cr11_6, cr11_7, cr11_8, cr11_9, cr11_10, cr11_11, cr11_12, cr11_13, cr11_14, ca_30, cs_30, ca_31, cs_31, ca_32, cs_32, ca_33, cs_33, ca_34, cs_34, ca_35, cs_35, ca_36, cs_36, ca_37, cs_37, ca_38, cs_38, ca_39, cs_39, ca_40, cs_40, ca_41, cs_41, ca_42, cs_42, car_20, car_21, car_22, cq11_3, cq11_4, cq3_1, cq0_0, cq0_1, if_true, if_false, Option.bind_some, cb_e, lt_e, nI_1, hs_nar2, nh4, upd_at, vau_at, ca_42_0, cs_42_0, u1, i1']
  · rw [if_neg cS]
    have bd := c_expression_bad (B := B) (r := r) (U := U) (fuel := FU) (i := 0) (c := 0) (n := nI n) (A := A1) (by decide) cS u2
    have bd' : fX3_expression_b7 U FU 37 (nI n) 0 (mkC F1 A1 B r) = some ((), mkC F1 A1 B r) := bd
    refine ⟨F1, A1, ?_, u2, u3, fun q => absurd q cS⟩
    simp -implicitDefEqProofs (disch := first | assumption | omega | decide | exact And.intro (by omega) (by omega)) only [cck_0, cr0_0, cr0_1, cr0_2, cr0_3, cg0_4, cp0_4, cg0_5, cp0_5, cck_1, cg1_0, cp1_0, cr1_1, cr1_2, cr1_3, cg1_4, cp1_4, cg1_5, cp1_5, cr1_6, cr1_7, cck_2, cr2_0, cr2_1, cr2_2, cck_3, cr3_0, cr3_1, cg3_2, cp3_2, cg3_3, cp3_3, cg3_4, cp3_4, cg3_5, cp3_5, cg3_6, cp3_6, cg3_7, cp3_7, cg3_8, cp3_8, cck_4, cg4_0, cp4_0, cg4_1, cp4_1, cr4_2, cr4_3, cr4_4, cr4_5, cck_5, cg5_0, cp5_0, cr5_1, cr5_2, cr5_3, cck_6, cg6_0, cp6_0, cg6_1, cp6_1, cck_7, cg7_0, cp7_0, cg7_1, cp7_1, cr7_2, cr7_3, cr7_4, cr7_5, cr7_6, cr7_7, cr7_8, cck_8, cr8_0, cr8_1, cck_9, cr9_0, cr9_1, cr9_2, cr9_3, cg9_4, cp9_4, cck_10, cg10_0, cp10_0, cr10_1, cr10_2, cr10_3, cr10_4, cg10_5, cp10_5, cr10_6, cr10_7, cr10_8, cg10_9, cp10_9, cg10_10, cp10_10, cr10_11, cr10_12, cr10_13, cr10_14, cck_11, cr11_0, cg11_1, cp11_1, cr11_2, cr11_3, cr11_4, cr11_5, cr11_6, cr11_7, cr11_8, cr11_9, cr11_10, cr11_11, cr11_12, cr11_13, cr11_14, ca_30, cs_30, ca_31, cs_31, ca_32, cs_32, ca_33, cs_33, ca_34, cs_34, ca_35, cs_35, ca_36, cs_36, ca_37, cs_37, ca_38, cs_38, ca_39, cs_39, ca_40, cs_40, ca_41, cs_41, ca_42, cs_42, car_20, car_21, car_22, cq11_3, cq11_4, cq3_1, cq0_0, cq0_1, if_true, if_false, Option.bind_some, cb_e, lt_e, nI_1, hs_nar2, nh4, upd_at, vau_at, ca_42_0, cs_42_0, u1, bd']
end CX74
