/-! ===== fits, span ===== -/
section CF4
variable {T : TD} {n7 : Nat} {sp : Nat → AP} {sd : Nat → Int32} {r : Nat → Nat} {B : Nat → Nat → Int64}
theorem leC_b {m : Nat} {G : Nat → Bool} {v : Nat → Nat} : ∀ W, leC m G v W ≤ m
  | 0 => Nat.le_refl _
  | W + 1 => by
    have := leC_b (m := m) (G := G) (v := v) W
    rw [leC]
    split <;> omega
theorem grC_b {G : Nat → Bool} {v : Nat → Nat} {N : Nat} (hN : 1 ≤ N) (hv : ∀ w, v w ≤ N) : ∀ W, grC G v W ≤ N
  | 0 => hN
  | W + 1 => by
    have h1 := grC_b (G := G) hN hv W
    have h2 := hv W
    rw [grC]
    split <;> omega
theorem c_fit_go {m K : Nat} (hm : 0 < m) (hm6 : m ≤ 6) (hK : K ≤ n7) {Q : Nat → Bool} (hQn : ∀ b, Q b = true → b < tNb T) (hQs : ∀ j, j < K → ∀ l, l < (sp j).1 → Q (pB (sp j) l) = true) : ∀ k i fuel, i + k = m ^ rk Q (tNb T) → k < fuel → ∀ (F A : Nat → Nat → Int32), CFit F A T n7 sp sd → F 69 4 = nI (rk Q (tNb T)) → F 69 5 = nI (cnG (gC T sp sd K m Q) i) → (∀ b, b < tNb T → Q b = true → A 72 (rk Q b) = nI b) → (∀ b, b < tNb T → A 73 b = nI (if Q b then leC m (gC T sp sd K m Q) (fun i => asg m Q (tNb T) i b + 1) i else 1) ∧ A 74 b = nI (if Q b then grC (gC T sp sd K m Q) (fun i => asg m Q (tNb T) i b + 1) i else m)) → ∃ F' A', fX1_search_b44 fuel 69 (nI m) (nI K) (nI (m ^ fq Q (tNb T))) (nI (m ^ rk Q (tNb T))) (nI i) (mkC F A B r) = some ((), mkC F' A' B r) ∧ CV F F' A A' ∧ F' 69 5 = nI (cnG (gC T sp sd K m Q) (m ^ rk Q (tNb T)) * m ^ fq Q (tNb T)) ∧ ∀ b, b < tNb T → A' 73 b = nI (if Q b then leC m (gC T sp sd K m Q) (fun i => asg m Q (tNb T) i b + 1) (m ^ rk Q (tNb T)) else 1) ∧ A' 74 b = nI (if Q b then grC (gC T sp sd K m Q) (fun i => asg m Q (tNb T) i b + 1) (m ^ rk Q (tNb T)) else m) := by
  have hrk := rk_le (Q := Q) (tNb T)
  intro k
  induction k with
  | zero =>
    intro i fuel h1 h2 F A hF a1 a2 a3 a4
    obtain ⟨fuel, rfl⟩ : ∃ q, fuel = q + 1 := ⟨fuel - 1, by omega⟩
    have nb6 := hF.1.1
    have p6 := pow66 hm6 (show rk Q (tNb T) ≤ 6 by omega)
    have hi : i = m ^ rk Q (tNb T) := by omega
    rw [fX1_search_b44, if_pos (nI_le (by omega) (by omega))]
    simp -implicitDefEqProofs (disch := first | assumption | omega | decide | exact And.intro (by omega) (by omega)) only [cck_0, cr0_0, cr0_1, cr0_2, cr0_3, cg0_4, cp0_4, cg0_5, cp0_5, cck_1, cg1_0, cp1_0, cr1_1, cr1_2, cr1_3, cg1_4, cp1_4, cg1_5, cp1_5, cr1_6, cr1_7, cck_2, cr2_0, cr2_1, cr2_2, cck_3, cr3_0, cr3_1, cg3_2, cp3_2, cg3_3, cp3_3, cg3_4, cp3_4, cg3_5, cp3_5, cg3_6, cp3_6, cg3_7, cp3_7, cg3_8, cp3_8, cck_4, cg4_0, cp4_0, cg4_1, cp4_1, cr4_2, cr4_3, cr4_4, cr4_5, cck_5, cg5_0, cp5_0, cr5_1, cr5_2, cr5_3, cck_6, cg6_0, cp6_0, cg6_1, cp6_1, cck_7, cg7_0, cp7_0, cg7_1, cp7_1, cr7_2, cr7_3, cr7_4, cr7_5, cr7_6, cr7_7, cr7_8, cck_8, cr8_0, cr8_1, cck_9, cr9_0, cr9_1, cr9_2, cr9_3, cg9_4, cp9_4, cck_10, cg10_0, cp10_0, cr10_1, cr10_2, cr10_3, cr10_4, cg10_5, cp10_5, cr10_6, cr10_7, cr10_8, cg10_9, cp10_9, cg10_10, cp10_10, cr10_11, cr10_12, cr10_13, cr10_14, cck_11, cr11_0, cg11_1, cp11_1, cr11_2, cr11_3, cr11_4, cr11_5, cr11_6, cr11_7, cr11_8, cr11_9, cr11_10, cr11_11, cr11_12, cr11_13, cr11_14, ca_30, cs_30, ca_31, cs_31, ca_32, cs_32, ca_33, cs_33, ca_34, cs_34, ca_35, cs_35, ca_36, cs_36, ca_37, cs_37, ca_38, cs_38, ca_39, cs_39, ca_40, cs_40, ca_41, cs_41, ca_42, cs_42, car_20, car_21, car_22, cq11_3, cq11_4, cq3_1, cq0_0, cq0_1, if_true, if_false, Option.bind_some, cb_e, lt_e, nI_1, hs_nar2, nh4, upd_at, vau_at, ca_42_0, cs_42_0, a2, pk_mul]
    rw [hi] at a4 ⊢
    exact ⟨_, A, rfl, ⟨fun c hc => vau_ne hc, by rw [vau_at, upd_ne (by decide)], fun _ _ => rfl⟩, by rw [vau_at, upd_at], a4⟩
  | succ k ih =>
    intro i fuel h1 h2 F A hF a1 a2 a3 a4
    obtain ⟨fuel, rfl⟩ : ∃ q, fuel = q + 1 := ⟨fuel - 1, by omega⟩
    have nb6 := hF.1.1
    have p6 := pow66 hm6 (show rk Q (tNb T) ≤ 6 by omega)
    have i31 : i < 2 ^ 31 := by omega
    obtain ⟨A1, z1, z2, z3⟩ := c_fill_go (r := r) (B := B) nb6 hm hm6 i31 a1 (rk Q (tNb T)) 0 FU (by omega) (by unfold FU; omega) A a3 (fun b _ _ q => absurd q (by omega))
    rw [Nat.pow_zero, Nat.div_one] at z1
    have z1' : fX1_fillRow 69 (nI i) (nI m) (mkC F A B r) = some ((), mkC F A1 B r) := by
      unfold fX1_fillRow
      simp -implicitDefEqProofs (disch := first | assumption | omega | decide | exact And.intro (by omega) (by omega)) only [cck_0, cr0_0, cr0_1, cr0_2, cr0_3, cg0_4, cp0_4, cg0_5, cp0_5, cck_1, cg1_0, cp1_0, cr1_1, cr1_2, cr1_3, cg1_4, cp1_4, cg1_5, cp1_5, cr1_6, cr1_7, cck_2, cr2_0, cr2_1, cr2_2, cck_3, cr3_0, cr3_1, cg3_2, cp3_2, cg3_3, cp3_3, cg3_4, cp3_4, cg3_5, cp3_5, cg3_6, cp3_6, cg3_7, cp3_7, cg3_8, cp3_8, cck_4, cg4_0, cp4_0, cg4_1, cp4_1, cr4_2, cr4_3, cr4_4, cr4_5, cck_5, cg5_0, cp5_0, cr5_1, cr5_2, cr5_3, cck_6, cg6_0, cp6_0, cg6_1, cp6_1, cck_7, cg7_0, cp7_0, cg7_1, cp7_1, cr7_2, cr7_3, cr7_4, cr7_5, cr7_6, cr7_7, cr7_8, cck_8, cr8_0, cr8_1, cck_9, cr9_0, cr9_1, cr9_2, cr9_3, cg9_4, cp9_4, cck_10, cg10_0, cp10_0, cr10_1, cr10_2, cr10_3, cr10_4, cg10_5, cp10_5, cr10_6, cr10_7, cr10_8, cg10_9, cp10_9, cg10_10, cp10_10, cr10_11, cr10_12, cr10_13, cr10_14, cck_11, cr11_0, cg11_1, cp11_1, cr11_2, cr11_3, cr11_4, cr11_5, cr11_6, cr11_7, cr11_8, cr11_9, cr11_10, cr11_11, cr11_12, cr11_13, cr11_14, ca_30, cs_30, ca_31, cs_31, ca_32, cs_32, ca_33, cs_33, ca_34, cs_34, ca_35, cs_35, ca_36, cs_36, ca_37, cs_37, ca_38, cs_38, ca_39, cs_39, ca_40, cs_40, ca_41, cs_41, ca_42, cs_42, car_20, car_21, car_22, cq11_3, cq11_4, cq3_1, cq0_0, cq0_1, if_true, if_false, Option.bind_some, cb_e, lt_e, nI_1, hs_nar2, nh4, upd_at, vau_at, ca_42_0, cs_42_0]
      exact z1
    have cv1 : CV F F A A1 := ⟨fun _ _ => rfl, rfl, fun c hc => z3 c (by omega)⟩
    have hF1 := hF.cv cv1
    have ag := c_agree_go (r := r) (B := B) (trD_tr (nb := tNb T) (m := m) (r := asg m Q (tNb T) i) hm6 (fun b => asg_lt hm b)) hF1 hK (fun j hj l hl => by
      have hq := hQs j hj l hl
      have hn := hQn _ hq
      unfold trD
      rw [if_pos hn, z2 _ hn hq, iI_nI]
      exact ⟨by omega, rfl⟩) K 0 FU (by omega) (by have := hF.2.1; unfold FU; omega)
    have ag' : fX1_agree 69 (nI K) (mkC F A1 B r) = some (b2 (gC T sp sd K m Q i), mkC F A1 B r) := by
      unfold fX1_agree
      simp -implicitDefEqProofs (disch := first | assumption | omega | decide | exact And.intro (by omega) (by omega)) only [cck_0, cr0_0, cr0_1, cr0_2, cr0_3, cg0_4, cp0_4, cg0_5, cp0_5, cck_1, cg1_0, cp1_0, cr1_1, cr1_2, cr1_3, cg1_4, cp1_4, cg1_5, cp1_5, cr1_6, cr1_7, cck_2, cr2_0, cr2_1, cr2_2, cck_3, cr3_0, cr3_1, cg3_2, cp3_2, cg3_3, cp3_3, cg3_4, cp3_4, cg3_5, cp3_5, cg3_6, cp3_6, cg3_7, cp3_7, cg3_8, cp3_8, cck_4, cg4_0, cp4_0, cg4_1, cp4_1, cr4_2, cr4_3, cr4_4, cr4_5, cck_5, cg5_0, cp5_0, cr5_1, cr5_2, cr5_3, cck_6, cg6_0, cp6_0, cg6_1, cp6_1, cck_7, cg7_0, cp7_0, cg7_1, cp7_1, cr7_2, cr7_3, cr7_4, cr7_5, cr7_6, cr7_7, cr7_8, cck_8, cr8_0, cr8_1, cck_9, cr9_0, cr9_1, cr9_2, cr9_3, cg9_4, cp9_4, cck_10, cg10_0, cp10_0, cr10_1, cr10_2, cr10_3, cr10_4, cg10_5, cp10_5, cr10_6, cr10_7, cr10_8, cg10_9, cp10_9, cg10_10, cp10_10, cr10_11, cr10_12, cr10_13, cr10_14, cck_11, cr11_0, cg11_1, cp11_1, cr11_2, cr11_3, cr11_4, cr11_5, cr11_6, cr11_7, cr11_8, cr11_9, cr11_10, cr11_11, cr11_12, cr11_13, cr11_14, ca_30, cs_30, ca_31, cs_31, ca_32, cs_32, ca_33, cs_33, ca_34, cs_34, ca_35, cs_35, ca_36, cs_36, ca_37, cs_37, ca_38, cs_38, ca_39, cs_39, ca_40, cs_40, ca_41, cs_41, ca_42, cs_42, car_20, car_21, car_22, cq11_3, cq11_4, cq3_1, cq0_0, cq0_1, if_true, if_false, Option.bind_some, cb_e, lt_e, nI_1, hs_nar2, nh4, upd_at, vau_at, ca_42_0, cs_42_0]
      exact ag
    have ec := cnG_s (gC T sp sd K m Q) i
    have cl := cnG_le (gC T sp sd K m Q) i
    rw [fX1_search_b44, if_neg (nI_ge (by omega) (by omega))]
    simp -implicitDefEqProofs (disch := first | assumption | omega | decide | exact And.intro (by omega) (by omega)) only [cck_0, cr0_0, cr0_1, cr0_2, cr0_3, cg0_4, cp0_4, cg0_5, cp0_5, cck_1, cg1_0, cp1_0, cr1_1, cr1_2, cr1_3, cg1_4, cp1_4, cg1_5, cp1_5, cr1_6, cr1_7, cck_2, cr2_0, cr2_1, cr2_2, cck_3, cr3_0, cr3_1, cg3_2, cp3_2, cg3_3, cp3_3, cg3_4, cp3_4, cg3_5, cp3_5, cg3_6, cp3_6, cg3_7, cp3_7, cg3_8, cp3_8, cck_4, cg4_0, cp4_0, cg4_1, cp4_1, cr4_2, cr4_3, cr4_4, cr4_5, cck_5, cg5_0, cp5_0, cr5_1, cr5_2, cr5_3, cck_6, cg6_0, cp6_0, cg6_1, cp6_1, cck_7, cg7_0, cp7_0, cg7_1, cp7_1, cr7_2, cr7_3, cr7_4, cr7_5, cr7_6, cr7_7, cr7_8, cck_8, cr8_0, cr8_1, cck_9, cr9_0, cr9_1, cr9_2, cr9_3, cg9_4, cp9_4, cck_10, cg10_0, cp10_0, cr10_1, cr10_2, cr10_3, cr10_4, cg10_5, cp10_5, cr10_6, cr10_7, cr10_8, cg10_9, cp10_9, cg10_10, cp10_10, cr10_11, cr10_12, cr10_13, cr10_14, cck_11, cr11_0, cg11_1, cp11_1, cr11_2, cr11_3, cr11_4, cr11_5, cr11_6, cr11_7, cr11_8, cr11_9, cr11_10, cr11_11, cr11_12, cr11_13, cr11_14, ca_30, cs_30, ca_31, cs_31, ca_32, cs_32, ca_33, cs_33, ca_34, cs_34, ca_35, cs_35, ca_36, cs_36, ca_37, cs_37, ca_38, cs_38, ca_39, cs_39, ca_40, cs_40, ca_41, cs_41, ca_42, cs_42, car_20, car_21, car_22, cq11_3, cq11_4, cq3_1, cq0_0, cq0_1, if_true, if_false, Option.bind_some, cb_e, lt_e, nI_1, hs_nar2, nh4, upd_at, vau_at, ca_42_0, cs_42_0, z1', ag']
    unfold fX1_search_b80
    cases hg : gC T sp sd K m Q i with
    | false =>
      rw [if_pos (show b2 false = 0 by decide), nI_1]
      rw [hg, if_neg (by decide), Nat.add_zero] at ec
      obtain ⟨F', A', g1, g2, g3, g4⟩ := ih (i + 1) fuel (by omega) (by omega) F A1 hF1 a1 (by rw [ec]; exact a2) (fun b b1 b2 => by rw [z3 72 (by decide)]; exact a3 b b1 b2) (fun b hb => by
        rw [z3 73 (by decide), z3 74 (by decide), leC, grC, hg, if_neg (show ¬ false = true by decide), if_neg (show ¬ false = true by decide)]
        exact a4 b hb)
      exact ⟨F', A', g1, cv1.tr g2, g3, g4⟩
    | true =>
      rw [if_neg (show ¬ b2 true = 0 by decide)]
      rw [hg, if_pos rfl] at ec
      simp -implicitDefEqProofs (disch := first | assumption | omega | decide | exact And.intro (by omega) (by omega)) only [cck_0, cr0_0, cr0_1, cr0_2, cr0_3, cg0_4, cp0_4, cg0_5, cp0_5, cck_1, cg1_0, cp1_0, cr1_1, cr1_2, cr1_3, cg1_4, cp1_4, cg1_5, cp1_5, cr1_6, cr1_7, cck_2, cr2_0, cr2_1, cr2_2, cck_3, cr3_0, cr3_1, cg3_2, cp3_2, cg3_3, cp3_3, cg3_4, cp3_4, cg3_5, cp3_5, cg3_6, cp3_6, cg3_7, cp3_7, cg3_8, cp3_8, cck_4, cg4_0, cp4_0, cg4_1, cp4_1, cr4_2, cr4_3, cr4_4, cr4_5, cck_5, cg5_0, cp5_0, cr5_1, cr5_2, cr5_3, cck_6, cg6_0, cp6_0, cg6_1, cp6_1, cck_7, cg7_0, cp7_0, cg7_1, cp7_1, cr7_2, cr7_3, cr7_4, cr7_5, cr7_6, cr7_7, cr7_8, cck_8, cr8_0, cr8_1, cck_9, cr9_0, cr9_1, cr9_2, cr9_3, cg9_4, cp9_4, cck_10, cg10_0, cp10_0, cr10_1, cr10_2, cr10_3, cr10_4, cg10_5, cp10_5, cr10_6, cr10_7, cr10_8, cg10_9, cp10_9, cg10_10, cp10_10, cr10_11, cr10_12, cr10_13, cr10_14, cck_11, cr11_0, cg11_1, cp11_1, cr11_2, cr11_3, cr11_4, cr11_5, cr11_6, cr11_7, cr11_8, cr11_9, cr11_10, cr11_11, cr11_12, cr11_13, cr11_14, ca_30, cs_30, ca_31, cs_31, ca_32, cs_32, ca_33, cs_33, ca_34, cs_34, ca_35, cs_35, ca_36, cs_36, ca_37, cs_37, ca_38, cs_38, ca_39, cs_39, ca_40, cs_40, ca_41, cs_41, ca_42, cs_42, car_20, car_21, car_22, cq11_3, cq11_4, cq3_1, cq0_0, cq0_1, if_true, if_false, Option.bind_some, cb_e, lt_e, nI_1, hs_nar2, nh4, upd_at, vau_at, ca_42_0, cs_42_0, a2]
      have al : ∀ b, asg m Q (tNb T) i b + 1 ≤ m := fun b => asg_lt hm b
      obtain ⟨A2, x1, x2, x3, x4⟩ := c_widen_go (r := r) (B := B) (F := va_up F 69 (upd (F 69) 5 (nI (cnG (gC T sp sd K m Q) i + 1)))) nb6 (Q := Q) (by rw [vau_at, upd_ne (by decide)]; exact a1) (tv := fun b => asg m Q (tNb T) i b + 1) (le := fun b => leC m (gC T sp sd K m Q) (fun i => asg m Q (tNb T) i b + 1) i) (gr := fun b => grC (gC T sp sd K m Q) (fun i => asg m Q (tNb T) i b + 1) i) (fun b => by have := al b; omega) (fun b => by have := leC_b (m := m) (G := gC T sp sd K m Q) (v := fun i => asg m Q (tNb T) i b + 1) i; omega) (fun b => by have := grC_b (G := gC T sp sd K m Q) (v := fun i => asg m Q (tNb T) i b + 1) (N := m) (by omega) (fun w => asg_lt hm b) i; omega) (rk Q (tNb T)) 0 FU (by omega) (by unfold FU; omega) A1 (fun b b1 b2 => ⟨by rw [z3 72 (by decide)]; exact a3 b b1 b2, z2 b b1 b2⟩) (fun b _ _ q => absurd q (by omega)) (fun b b1 b2 _ => by
        have := a4 b b1
        rw [b2, if_pos rfl, if_pos rfl] at this
        rw [z3 73 (by decide), z3 74 (by decide)]
        exact this)
      have x1' : fX1_widen 69 (mkC (va_up F 69 (upd (F 69) 5 (nI (cnG (gC T sp sd K m Q) i + 1)))) A1 B r) = some ((), mkC (va_up F 69 (upd (F 69) 5 (nI (cnG (gC T sp sd K m Q) i + 1)))) A2 B r) := by
        unfold fX1_widen
        simp -implicitDefEqProofs (disch := first | assumption | omega | decide | exact And.intro (by omega) (by omega)) only [cck_0, cr0_0, cr0_1, cr0_2, cr0_3, cg0_4, cp0_4, cg0_5, cp0_5, cck_1, cg1_0, cp1_0, cr1_1, cr1_2, cr1_3, cg1_4, cp1_4, cg1_5, cp1_5, cr1_6, cr1_7, cck_2, cr2_0, cr2_1, cr2_2, cck_3, cr3_0, cr3_1, cg3_2, cp3_2, cg3_3, cp3_3, cg3_4, cp3_4, cg3_5, cp3_5, cg3_6, cp3_6, cg3_7, cp3_7, cg3_8, cp3_8, cck_4, cg4_0, cp4_0, cg4_1, cp4_1, cr4_2, cr4_3, cr4_4, cr4_5, cck_5, cg5_0, cp5_0, cr5_1, cr5_2, cr5_3, cck_6, cg6_0, cp6_0, cg6_1, cp6_1, cck_7, cg7_0, cp7_0, cg7_1, cp7_1, cr7_2, cr7_3, cr7_4, cr7_5, cr7_6, cr7_7, cr7_8, cck_8, cr8_0, cr8_1, cck_9, cr9_0, cr9_1, cr9_2, cr9_3, cg9_4, cp9_4, cck_10, cg10_0, cp10_0, cr10_1, cr10_2, cr10_3, cr10_4, cg10_5, cp10_5, cr10_6, cr10_7, cr10_8, cg10_9, cp10_9, cg10_10, cp10_10, cr10_11, cr10_12, cr10_13, cr10_14, cck_11, cr11_0, cg11_1, cp11_1, cr11_2, cr11_3, cr11_4, cr11_5, cr11_6, cr11_7, cr11_8, cr11_9, cr11_10, cr11_11, cr11_12, cr11_13, cr11_14, ca_30, cs_30, ca_31, cs_31, ca_32, cs_32, ca_33, cs_33, ca_34, cs_34, ca_35, cs_35, ca_36, cs_36, ca_37, cs_37, ca_38, cs_38, ca_39, cs_39, ca_40, cs_40, ca_41, cs_41, ca_42, cs_42, car_20, car_21, car_22, cq11_3, cq11_4, cq3_1, cq0_0, cq0_1, if_true, if_false, Option.bind_some, cb_e, lt_e, nI_1, hs_nar2, nh4, upd_at, vau_at, ca_42_0, cs_42_0]
        exact x1
      have cv2 : CV F (va_up F 69 (upd (F 69) 5 (nI (cnG (gC T sp sd K m Q) i + 1)))) A A2 := ⟨fun c hc => vau_ne hc, by rw [vau_at, upd_ne (by decide)], fun c hc => by rw [x4 c (by omega) (by omega), z3 c (by omega)]⟩
      obtain ⟨F', A', g1, g2, g3, g4⟩ := ih (i + 1) fuel (by omega) (by omega) (va_up F 69 (upd (F 69) 5 (nI (cnG (gC T sp sd K m Q) i + 1)))) A2 (hF.cv cv2) (by rw [vau_at, upd_ne (by decide)]; exact a1) (by rw [vau_at, upd_at, ec]) (fun b b1 b2 => by rw [x4 72 (by decide) (by decide), z3 72 (by decide)]; exact a3 b b1 b2) (fun b hb => by
        rw [leC, grC, hg, if_pos (show true = true from rfl), if_pos (show true = true from rfl)]
        cases hq : Q b with
        | true =>
          rw [if_pos (show true = true from rfl), if_pos (show true = true from rfl)]
          exact x2 b hb hq
        | false =>
          have := a4 b hb
          rw [hq] at this
          rw [(x3 b hq).1, (x3 b hq).2, z3 73 (by decide), z3 74 (by decide)]
          exact this)
      simp -implicitDefEqProofs (disch := first | assumption | omega | decide | exact And.intro (by omega) (by omega)) only [cck_0, cr0_0, cr0_1, cr0_2, cr0_3, cg0_4, cp0_4, cg0_5, cp0_5, cck_1, cg1_0, cp1_0, cr1_1, cr1_2, cr1_3, cg1_4, cp1_4, cg1_5, cp1_5, cr1_6, cr1_7, cck_2, cr2_0, cr2_1, cr2_2, cck_3, cr3_0, cr3_1, cg3_2, cp3_2, cg3_3, cp3_3, cg3_4, cp3_4, cg3_5, cp3_5, cg3_6, cp3_6, cg3_7, cp3_7, cg3_8, cp3_8, cck_4, cg4_0, cp4_0, cg4_1, cp4_1, cr4_2, cr4_3, cr4_4, cr4_5, cck_5, cg5_0, cp5_0, cr5_1, cr5_2, cr5_3, cck_6, cg6_0, cp6_0, cg6_1, cp6_1, cck_7, cg7_0, cp7_0, cg7_1, cp7_1, cr7_2, cr7_3, cr7_4, cr7_5, cr7_6, cr7_7, cr7_8, cck_8, cr8_0, cr8_1, cck_9, cr9_0, cr9_1, cr9_2, cr9_3, cg9_4, cp9_4, cck_10, cg10_0, cp10_0, cr10_1, cr10_2, cr10_3, cr10_4, cg10_5, cp10_5, cr10_6, cr10_7, cr10_8, cg10_9, cp10_9, cg10_10, cp10_10, cr10_11, cr10_12, cr10_13, cr10_14, cck_11, cr11_0, cg11_1, cp11_1, cr11_2, cr11_3, cr11_4, cr11_5, cr11_6, cr11_7, cr11_8, cr11_9, cr11_10, cr11_11, cr11_12, cr11_13, cr11_14, ca_30, cs_30, ca_31, cs_31, ca_32, cs_32, ca_33, cs_33, ca_34, cs_34, ca_35, cs_35, ca_36, cs_36, ca_37, cs_37, ca_38, cs_38, ca_39, cs_39, ca_40, cs_40, ca_41, cs_41, ca_42, cs_42, car_20, car_21, car_22, cq11_3, cq11_4, cq3_1, cq0_0, cq0_1, if_true, if_false, Option.bind_some, cb_e, lt_e, nI_1, hs_nar2, nh4, upd_at, vau_at, ca_42_0, cs_42_0, x1']
      exact ⟨F', A', g1, cv2.tr g2, g3, g4⟩
theorem c_search {m K : Nat} (hm : 0 < m) (hm6 : m ≤ 6) (hK : K ≤ n7) (F A : Nat → Nat → Int32) (hF : CFit F A T n7 sp sd) : ∃ F' A', fX1_search 69 (nI (tNb T)) (nI m) (nI K) (mkC F A B r) = some ((), mkC F' A' B r) ∧ CV F F' A A' ∧ F' 69 5 = nI (cnG (gM T sp sd K m) (m ^ tNb T)) ∧ (0 < cnG (gM T sp sd K m) (m ^ tNb T) → ∀ b, b < tNb T → A' 73 b = nI (leM (gM T sp sd K m) (fun w => dgs m (tNb T) w b + 1) (m ^ tNb T)) ∧ A' 74 b = nI (grM (gM T sp sd K m) (fun w => dgs m (tNb T) w b + 1) (m ^ tNb T))) := by
  have nb6 := hF.1.1
  have hQ6 : ∀ b, (fun b => askI sp b K 0) b = true → b < tNb T := fun b hb => by
    obtain ⟨j, l, h1, h2, h3, h4⟩ := (askI_iff K 0).1 hb
    rw [← h4]
    exact (hF.2.2 j (by omega)).1.2.1 l h3
  have hQs : ∀ j, j < K → ∀ l, l < (sp j).1 → (fun b => askI sp b K 0) (pB (sp j) l) = true := fun j hj l hl => (askI_iff K 0).2 ⟨j, l, by omega, by omega, hl, rfl⟩
  generalize hQ : (fun b => askI sp b K 0) = Q at hQ6 hQs
  have hrk := rk_le (Q := Q) (tNb T)
  have p6 := pow66 hm6 (show rk Q (tNb T) ≤ 6 by omega)
  obtain ⟨F1, A1, z1, z2, z3, z4, z5⟩ := c_prep_go (r := r) (B := B) (T := T) (sd := sd) hK hm hm6 hQ.symm (tNb T) 0 FU (by omega) (by unfold FU; omega) (va_up F 69 (upd (F 69) 4 0)) A (hF.cv ⟨fun c hc => vau_ne hc, by rw [vau_at, upd_ne (by decide)], fun _ _ => rfl⟩) (by rw [vau_at, upd_at]; rfl) (fun b hb => absurd hb (by omega)) (fun b hb => absurd hb (by omega))
  have cv1 : CV F F1 A A1 := CV.tr ⟨fun c hc => vau_ne hc, by rw [vau_at, upd_ne (by decide)], fun _ _ => rfl⟩ z2
  have t1 := c_tries (r := r) (B := B) (F := F1) (A := A1) (q := rk Q (tNb T)) (by omega) z3 m (nI K) (nI (m ^ fq Q (tNb T))) (rk Q (tNb T)) 0 FU (by omega) (by unfold FU; omega)
  obtain ⟨F2, A2, g1, g2, g3, g4⟩ := c_fit_go (r := r) (B := B) (sd := sd) hm hm6 hK hQ6 hQs (m ^ rk Q (tNb T)) 0 FU (by omega) (by unfold FU; omega) (va_up F1 69 (upd (F1 69) 5 0)) A1 (hF.cv (cv1.tr ⟨fun c hc => vau_ne hc, by rw [vau_at, upd_ne (by decide)], fun _ _ => rfl⟩)) (by rw [vau_at, upd_ne (by decide)]; exact z3) (by rw [vau_at, upd_at]; rfl) z4 z5
  have hG : ∀ x x' : Nat → Nat, (∀ b, Q b = true → x b = x' b) → soF T sp sd (trD (tNb T) x) K 0 = soF T sp sd (trD (tNb T) x') K 0 := by
    intro x x' hxx
    have key : ∀ k i, i + k = K → soF T sp sd (trD (tNb T) x) k i = soF T sp sd (trD (tNb T) x') k i := by
      intro k
      induction k with
      | zero => intro i _; rfl
      | succ k ih =>
        intro i hi
        have htr : ∀ l, l < (sp i).1 → trD (tNb T) x (pB (sp i) l) = trD (tNb T) x' (pB (sp i) l) := fun l hl => by
          unfold trD
          rw [hxx _ (hQs i (by omega) l hl)]
        have hsd : ∀ (g g' : Nat → Int) n, (∀ j, j < n → g j = g' j) → ∀ k, k ≤ n → sumD g n k = sumD g' n k := by
          intro g g' n hg k
          induction k with
          | zero => intro _; rfl
          | succ k ihk =>
            intro hk
            rw [sumD, sumD, ihk (by omega), hg (n - (k + 1)) (by omega)]
        have hwg : ∀ l, l < (sp i).1 → wg T (trD (tNb T) x) (sp i) l = wg T (trD (tNb T) x') (sp i) l := fun l hl => by
          unfold wg
          rw [htr l hl]
        have e : stR T (trD (tNb T) x) (sp i) = stR T (trD (tNb T) x') (sp i) := by
          rw [Bool.eq_iff_iff]
          unfold stR
          rw [fal_iff, fal_iff]
          have est : ∀ j, j < (sp i).1 → stAt T (trD (tNb T) x) (-1) 0 0 (sp i) j = stAt T (trD (tNb T) x') (-1) 0 0 (sp i) j := fun j hj => by
            unfold stAt ld mo
            rw [hsd (gl T (trD (tNb T) x) (-1) 0 (sp i)) (gl T (trD (tNb T) x') (-1) 0 (sp i)) _ (fun l hl => by unfold gl; rw [hwg l hl]) _ (by omega), hsd (gm T (trD (tNb T) x) (-1) 0 0 (sp i)) (gm T (trD (tNb T) x') (-1) 0 0 (sp i)) _ (fun l hl => by unfold gm; rw [hwg l hl]) _ (by omega)]
          exact ⟨fun h j q1 q2 => by rw [← est j (by omega)]; exact h j q1 q2, fun h j q1 q2 => by rw [est j (by omega)]; exact h j q1 q2⟩
        rw [soF, soF, e, ih (i + 1) (by omega)]
    exact key K 0 (by omega)
  have hcnt : cnG (gM T sp sd K m) (m ^ tNb T) = m ^ fq Q (tNb T) * cnG (gC T sp sd K m Q) (m ^ rk Q (tNb T)) := fit_cnt (G := fun x => soF T sp sd (trD (tNb T) x) K 0) hm hQ6 hG
  refine ⟨F2, A2, ?_, cv1.tr (CV.tr ⟨fun c hc => vau_ne hc, by rw [vau_at, upd_ne (by decide)], fun _ _ => rfl⟩ g2), by rw [g3, hcnt, Nat.mul_comm], fun h0 b hb => ?_⟩
  · have z1' : fX1_prepare_b11 FU 69 (nI (tNb T)) (nI m) (nI K) 1 0 (mkC (va_up F 69 (upd (F 69) 4 0)) A B r) = some (nI (m ^ fq Q (tNb T)), mkC F1 A1 B r) := z1
    have t1' : fX1_search_b15 FU 69 (nI m) (nI K) (nI (m ^ fq Q (tNb T))) 1 0 (mkC F1 A1 B r) = fX1_search_b36 69 (nI m) (nI K) (nI (m ^ fq Q (tNb T))) (nI (m ^ rk Q (tNb T))) (mkC F1 A1 B r) := t1
    have g1' : fX1_search_b44 FU 69 (nI m) (nI K) (nI (m ^ fq Q (tNb T))) (nI (m ^ rk Q (tNb T))) 0 (mkC (va_up F1 69 (upd (F1 69) 5 0)) A1 B r) = some ((), mkC F2 A2 B r) := g1
    unfold fX1_search fX1_prepare
    simp -implicitDefEqProofs (disch := first | assumption | omega | decide | exact And.intro (by omega) (by omega)) only [cck_0, cr0_0, cr0_1, cr0_2, cr0_3, cg0_4, cp0_4, cg0_5, cp0_5, cck_1, cg1_0, cp1_0, cr1_1, cr1_2, cr1_3, cg1_4, cp1_4, cg1_5, cp1_5, cr1_6, cr1_7, cck_2, cr2_0, cr2_1, cr2_2, cck_3, cr3_0, cr3_1, cg3_2, cp3_2, cg3_3, cp3_3, cg3_4, cp3_4, cg3_5, cp3_5, cg3_6, cp3_6, cg3_7, cp3_7, cg3_8, cp3_8, cck_4, cg4_0, cp4_0, cg4_1, cp4_1, cr4_2, cr4_3, cr4_4, cr4_5, cck_5, cg5_0, cp5_0, cr5_1, cr5_2, cr5_3, cck_6, cg6_0, cp6_0, cg6_1, cp6_1, cck_7, cg7_0, cp7_0, cg7_1, cp7_1, cr7_2, cr7_3, cr7_4, cr7_5, cr7_6, cr7_7, cr7_8, cck_8, cr8_0, cr8_1, cck_9, cr9_0, cr9_1, cr9_2, cr9_3, cg9_4, cp9_4, cck_10, cg10_0, cp10_0, cr10_1, cr10_2, cr10_3, cr10_4, cg10_5, cp10_5, cr10_6, cr10_7, cr10_8, cg10_9, cp10_9, cg10_10, cp10_10, cr10_11, cr10_12, cr10_13, cr10_14, cck_11, cr11_0, cg11_1, cp11_1, cr11_2, cr11_3, cr11_4, cr11_5, cr11_6, cr11_7, cr11_8, cr11_9, cr11_10, cr11_11, cr11_12, cr11_13, cr11_14, ca_30, cs_30, ca_31, cs_31, ca_32, cs_32, ca_33, cs_33, ca_34, cs_34, ca_35, cs_35, ca_36, cs_36, ca_37, cs_37, ca_38, cs_38, ca_39, cs_39, ca_40, cs_40, ca_41, cs_41, ca_42, cs_42, car_20, car_21, car_22, cq11_3, cq11_4, cq3_1, cq0_0, cq0_1, if_true, if_false, Option.bind_some, cb_e, lt_e, nI_1, hs_nar2, nh4, upd_at, vau_at, ca_42_0, cs_42_0, z1', t1']
    unfold fX1_search_b36
    simp -implicitDefEqProofs (disch := first | assumption | omega | decide | exact And.intro (by omega) (by omega)) only [cck_0, cr0_0, cr0_1, cr0_2, cr0_3, cg0_4, cp0_4, cg0_5, cp0_5, cck_1, cg1_0, cp1_0, cr1_1, cr1_2, cr1_3, cg1_4, cp1_4, cg1_5, cp1_5, cr1_6, cr1_7, cck_2, cr2_0, cr2_1, cr2_2, cck_3, cr3_0, cr3_1, cg3_2, cp3_2, cg3_3, cp3_3, cg3_4, cp3_4, cg3_5, cp3_5, cg3_6, cp3_6, cg3_7, cp3_7, cg3_8, cp3_8, cck_4, cg4_0, cp4_0, cg4_1, cp4_1, cr4_2, cr4_3, cr4_4, cr4_5, cck_5, cg5_0, cp5_0, cr5_1, cr5_2, cr5_3, cck_6, cg6_0, cp6_0, cg6_1, cp6_1, cck_7, cg7_0, cp7_0, cg7_1, cp7_1, cr7_2, cr7_3, cr7_4, cr7_5, cr7_6, cr7_7, cr7_8, cck_8, cr8_0, cr8_1, cck_9, cr9_0, cr9_1, cr9_2, cr9_3, cg9_4, cp9_4, cck_10, cg10_0, cp10_0, cr10_1, cr10_2, cr10_3, cr10_4, cg10_5, cp10_5, cr10_6, cr10_7, cr10_8, cg10_9, cp10_9, cg10_10, cp10_10, cr10_11, cr10_12, cr10_13, cr10_14, cck_11, cr11_0, cg11_1, cp11_1, cr11_2, cr11_3, cr11_4, cr11_5, cr11_6, cr11_7, cr11_8, cr11_9, cr11_10, cr11_11, cr11_12, cr11_13, cr11_14, ca_30, cs_30, ca_31, cs_31, ca_32, cs_32, ca_33, cs_33, ca_34, cs_34, ca_35, cs_35, ca_36, cs_36, ca_37, cs_37, ca_38, cs_38, ca_39, cs_39, ca_40, cs_40, ca_41, cs_41, ca_42, cs_42, car_20, car_21, car_22, cq11_3, cq11_4, cq3_1, cq0_0, cq0_1, if_true, if_false, Option.bind_some, cb_e, lt_e, nI_1, hs_nar2, nh4, upd_at, vau_at, ca_42_0, cs_42_0]
    exact g1'
  · obtain ⟨s1, s2⟩ := fit_span (G := fun x => soF T sp sd (trD (tNb T) x) K 0) hm hQ6 hG hb h0
    have := g4 b hb
    rw [show leM (gM T sp sd K m) (fun w => dgs m (tNb T) w b + 1) (m ^ tNb T) = _ from s1, show grM (gM T sp sd K m) (fun w => dgs m (tNb T) w b + 1) (m ^ tNb T) = _ from s2]
    exact this
end CF4
section ST8
variable {F F' : Nat → Int32} {A A' : Nat → Nat → Int32} {B B' : Nat → Nat → Int64} {Fc Fc' Ac Ac' : Nat → Nat → Int32} {Bc Bc' : Nat → Nat → Int64} {rc rc' : Nat → Nat} {t lv : Nat} {T : TD} {u w : Nat} {ps : Nat → AP} {n7 : Nat} {sp : Nat → AP}
theorem rel_fit (hT : Tape F A Fc Ac) (hC : Core F A B Fc Ac Bc rc t lv T u w ps n7 sp) (hm : (∀ k, ¬ k = 46 → ¬ k = 49 → ¬ k = 50 → ¬ k = 51 → F' k = F k) ∧ (∀ c, ¬ c = 28 → ¬ c = 29 → ¬ c = 31 → ¬ c = 32 → ¬ c = 40 → ¬ c = 41 → A' c = A c) ∧ ∀ c, ¬ c = 33 → ¬ c = 34 → B' c = B c) (hc : CV Fc Fc' Ac Ac') : Rel (mkC Fc' Ac' Bc rc) (mkM F' A' B') := by
  have t7 := hC.t7
  exact rel_mk hT hC ⟨⟨hm.1 _ (by decide) (by decide) (by decide) (by decide), hm.1 _ (by decide) (by decide) (by decide) (by decide), hm.1 _ (by decide) (by decide) (by decide) (by decide), hm.1 _ (by decide) (by decide) (by decide) (by decide)⟩, fun c q => hm.2.1 c (by unfold KM at q; omega) (by unfold KM at q; omega) (by unfold KM at q; omega) (by unfold KM at q; omega) (by unfold KM at q; omega) (by unfold KM at q; omega), hm.2.2 7 (by decide) (by decide)⟩ ⟨⟨by rw [hc.1 37 (by decide)], hc.2.1, fun c q => hc.1 c (by unfold KF at q; omega)⟩, fun c q => hc.2.2 c (by unfold KA at q; omega), rfl, rfl, rfl⟩ (hm.1 2 (by decide) (by decide) (by decide) (by decide)) (hm.2.1 1 (by decide) (by decide) (by decide) (by decide) (by decide) (by decide)) (by rw [hc.1 0 (by decide)]) (hc.2.2 1 (by decide))
theorem Core.cfit (hC : Core F A B Fc Ac Bc rc t lv T u w ps n7 sp) : CFit Fc Ac T n7 sp (A 39) := ⟨hC.2.1.1, hC.2.2.2.2.1.1, fun j hj => ⟨(hC.2.2.2.2.1.2.2.2 j hj).1, (hC.2.2.2.2.1.2.2.2 j hj).2.2⟩⟩
theorem both_can (hC : Core F A B Fc Ac Bc rc t lv T u w ps n7 sp) {x y : Int} (hx : in32 x) (hy : in32 y) : fX11_canFit 0 (iI x) (iI y) (mkC Fc Ac Bc rc) = some (b2 (decide ((1 ≤ x ∧ x ≤ 6) ∧ (0 ≤ y ∧ y ≤ n7))), mkC Fc Ac Bc rc) ∧ fX12_in (iI x) 1 6 (mkM F A B) = some (b2 (decide (1 ≤ x ∧ x ≤ 6)), mkM F A B) ∧ fX12_in (iI y) 0 (nI n7) (mkM F A B) = some (b2 (decide (0 ≤ y ∧ y ≤ n7)), mkM F A B) := by
  have h6 := hC.2.2.2.2.1.1
  have c0 := hC.2.2.2.2.1.2.2.1
  refine ⟨?_, m_in (a := 1) (b := 6) hx ⟨by decide, by decide⟩ ⟨by decide, by decide⟩ _, m_in (a := 0) (b := (n7 : Int)) hy ⟨by decide, by decide⟩ ⟨by omega, by omega⟩ _⟩
  have i1 : iI x < (1 : Int32) ↔ x < 1 := iI_lt (b := 1) hx ⟨by decide, by decide⟩
  have i2 : (6 : Int32) < iI x ↔ 6 < x := iI_lt (a := 6) ⟨by decide, by decide⟩ hx
  have i3 : iI y < 0 ↔ y < 0 := iI_lt0 hy
  have i4 : nI n7 < iI y ↔ (n7 : Int) < y := iI_lt (a := (n7 : Int)) ⟨by omega, by omega⟩ hy
  unfold fX11_canFit
  simp -implicitDefEqProofs (disch := first | assumption | omega | decide | exact And.intro (by omega) (by omega)) only [cck_0, cr0_0, cr0_1, cr0_2, cr0_3, cg0_4, cp0_4, cg0_5, cp0_5, cck_1, cg1_0, cp1_0, cr1_1, cr1_2, cr1_3, cg1_4, cp1_4, cg1_5, cp1_5, cr1_6, cr1_7, cck_2, cr2_0, cr2_1, cr2_2, cck_3, cr3_0, cr3_1, cg3_2, cp3_2, cg3_3, cp3_3, cg3_4, cp3_4, cg3_5, cp3_5, cg3_6, cp3_6, cg3_7, cp3_7, cg3_8, cp3_8, cck_4, cg4_0, cp4_0, cg4_1, cp4_1, cr4_2, cr4_3, cr4_4, cr4_5, cck_5, cg5_0, cp5_0, cr5_1, cr5_2, cr5_3, cck_6, cg6_0, cp6_0, cg6_1, cp6_1, cck_7, cg7_0, cp7_0, cg7_1, cp7_1, cr7_2, cr7_3, cr7_4, cr7_5, cr7_6, cr7_7, cr7_8, cck_8, cr8_0, cr8_1, cck_9, cr9_0, cr9_1, cr9_2, cr9_3, cg9_4, cp9_4, cck_10, cg10_0, cp10_0, cr10_1, cr10_2, cr10_3, cr10_4, cg10_5, cp10_5, cr10_6, cr10_7, cr10_8, cg10_9, cp10_9, cg10_10, cp10_10, cr10_11, cr10_12, cr10_13, cr10_14, cck_11, cr11_0, cg11_1, cp11_1, cr11_2, cr11_3, cr11_4, cr11_5, cr11_6, cr11_7, cr11_8, cr11_9, cr11_10, cr11_11, cr11_12, cr11_13, cr11_14, ca_30, cs_30, ca_31, cs_31, ca_32, cs_32, ca_33, cs_33, ca_34, cs_34, ca_35, cs_35, ca_36, cs_36, ca_37, cs_37, ca_38, cs_38, ca_39, cs_39, ca_40, cs_40, ca_41, cs_41, ca_42, cs_42, car_20, car_21, car_22, cq11_3, cq11_4, cq3_1, cq0_0, cq0_1, if_true, if_false, Option.bind_some, cb_e, lt_e, nI_1, hs_nar2, nh4, upd_at, vau_at, ca_42_0, cs_42_0, c0]
  by_cases c1 : x < 1
  · rw [if_pos (i1.2 c1), decide_eq_false (by omega)]; rfl
  rw [if_neg (fun q => c1 (i1.1 q))]
  by_cases c2 : 6 < x
  · rw [if_pos (i2.2 c2), decide_eq_false (by omega)]; rfl
  rw [if_neg (fun q => c2 (i2.1 q))]
  by_cases c3 : y < 0
  · rw [if_pos (i3.2 c3), decide_eq_false (by omega)]; rfl
  rw [if_neg (fun q => c3 (i3.1 q))]
  by_cases c4 : (n7 : Int) < y
  · rw [if_pos (i4.2 c4), decide_eq_false (by omega)]; rfl
  rw [if_neg (fun q => c4 (i4.1 q)), decide_eq_true (by omega)]; rfl
end ST8
theorem ag_fits : Ag_II Rel fX11_fits fX12_fits := by
  intro σc σm a b hR
  obtain ⟨F, A, B, Fc, Ac, Bc, rc, t, lv, T, u, w, ps, n7, sp, rfl, rfl, hT, hC⟩ := id hR
  obtain ⟨x, hx, rfl⟩ := iI_of a
  obtain ⟨y, hy, rfl⟩ := iI_of b
  obtain ⟨b1, b3, b4⟩ := both_can hC hx hy
  have s7 := hC.2.2.2.2.1.2.1
  have hr0 := hC.1.2.1
  have cnb := hC.2.1.2.2.1
  obtain ⟨k0, k1, k2, k3, k4, k5, k6, k7, k8, k9, k10, k11⟩ := TA_of hC.t7
  have nt : ¬ b2 true = 0 := by decide
  have nf : b2 false = 0 := by decide
  unfold fX11_fits fX12_fits
  by_cases c1 : 1 ≤ x ∧ x ≤ 6
  · by_cases c2 : 0 ≤ y ∧ y ≤ n7
    · obtain ⟨m, rfl⟩ : ∃ m : Nat, x = (m : Int) := ⟨x.toNat, by omega⟩
      obtain ⟨K, rfl⟩ : ∃ K : Nat, y = (K : Int) := ⟨y.toNat, by omega⟩
      have e3 : iI (m : Int) = nI m := rfl
      have e4 : iI (K : Int) = nI K := rfl
      rw [decide_eq_true ⟨c1, c2⟩] at b1
      rw [decide_eq_true c1] at b3
      rw [decide_eq_true c2] at b4
      rw [e3, e4] at b1 ⊢
      rw [e3] at b3
      rw [e4] at b4
      obtain ⟨F1, A1, B1, m1, m2, m3⟩ := m_fillsFits hC (m := m) (K := K) (by omega) (by omega) (by omega)
      obtain ⟨Fc1, Ac1, g1, g2, g3, g4⟩ := c_search (r := rc) (B := Bc) (m := m) (K := K) (by omega) (by omega) (by omega) Fc Ac hC.cfit
      refine ⟨nI (cnG (gM T sp (A 39) K m) (m ^ tNb T)), mkC Fc1 Ac1 Bc rc, mkM F1 A1 B1, ?_, ?_, rel_fit hT hC m2 g2⟩
      · simp -implicitDefEqProofs (disch := first | assumption | omega | decide | exact And.intro (by omega) (by omega)) only [cck_0, cr0_0, cr0_1, cr0_2, cr0_3, cg0_4, cp0_4, cg0_5, cp0_5, cck_1, cg1_0, cp1_0, cr1_1, cr1_2, cr1_3, cg1_4, cp1_4, cg1_5, cp1_5, cr1_6, cr1_7, cck_2, cr2_0, cr2_1, cr2_2, cck_3, cr3_0, cr3_1, cg3_2, cp3_2, cg3_3, cp3_3, cg3_4, cp3_4, cg3_5, cp3_5, cg3_6, cp3_6, cg3_7, cp3_7, cg3_8, cp3_8, cck_4, cg4_0, cp4_0, cg4_1, cp4_1, cr4_2, cr4_3, cr4_4, cr4_5, cck_5, cg5_0, cp5_0, cr5_1, cr5_2, cr5_3, cck_6, cg6_0, cp6_0, cg6_1, cp6_1, cck_7, cg7_0, cp7_0, cg7_1, cp7_1, cr7_2, cr7_3, cr7_4, cr7_5, cr7_6, cr7_7, cr7_8, cck_8, cr8_0, cr8_1, cck_9, cr9_0, cr9_1, cr9_2, cr9_3, cg9_4, cp9_4, cck_10, cg10_0, cp10_0, cr10_1, cr10_2, cr10_3, cr10_4, cg10_5, cp10_5, cr10_6, cr10_7, cr10_8, cg10_9, cp10_9, cg10_10, cp10_10, cr10_11, cr10_12, cr10_13, cr10_14, cck_11, cr11_0, cg11_1, cp11_1, cr11_2, cr11_3, cr11_4, cr11_5, cr11_6, cr11_7, cr11_8, cr11_9, cr11_10, cr11_11, cr11_12, cr11_13, cr11_14, ca_30, cs_30, ca_31, cs_31, ca_32, cs_32, ca_33, cs_33, ca_34, cs_34, ca_35, cs_35, ca_36, cs_36, ca_37, cs_37, ca_38, cs_38, ca_39, cs_39, ca_40, cs_40, ca_41, cs_41, ca_42, cs_42, car_20, car_21, car_22, cq11_3, cq11_4, cq3_1, cq0_0, cq0_1, if_true, if_false, Option.bind_some, cb_e, lt_e, nI_1, hs_nar2, nh4, upd_at, vau_at, ca_42_0, cs_42_0, b1, if_neg nt, hr0, cnb, g1, g3]
      · simp -implicitDefEqProofs (disch := first | assumption | omega | decide | exact And.intro (by omega) (by omega)) only [mck, mg_0, mp_0, mr_1, mg_2, mp_2, mr_3, mg_4, mp_4, mr_5, mr_6, mr_7, mr_8, mr_9, mg_10, mp_10, mg_11, mp_11, mg_12, mp_12, mg_13, mp_13, mg_14, mp_14, mg_15, mp_15, mg_16, mp_16, mg_17, mp_17, mg_18, mp_18, mg_19, mp_19, mg_20, mp_20, mr_21, mr_22, mr_23, mr_24, mr_25, mr_26, mr_27, mr_28, mr_29, mr_30, mr_31, mr_32, mg_33, mp_33, mr_34, mr_35, mr_36, mr_37, mr_38, mg_39, mp_39, mr_40, mr_41, mr_42, mg_43, mp_43, mr_44, mr_45, mg_46, mp_46, mr_47, mr_48, mg_49, mp_49, mg_50, mp_50, mg_51, mp_51, mr_52, mr_53, mr_54, mg_55, mp_55, mr_56, mr_57, mg_58, mp_58, mg_59, mp_59, mg_60, mp_60, mr_61, mg_62, mp_62, mr_63, mr_64, mr_65, mr_66, mr_67, mr_68, ma_1, ms_1, ma_2, ms_2, ma_3, ms_3, ma_4, ms_4, ma_5, ms_5, ma_6, ms_6, ma_7, ms_7, ma_8, ms_8, ma_9, ms_9, ma_10, ms_10, ma_11, ms_11, ma_12, ms_12, ma_13, ms_13, ma_14, ms_14, ma_15, ms_15, ma_16, ms_16, ma_17, ms_17, ma_18, ms_18, ma_19, ms_19, ma_20, ms_20, ma_21, ms_21, ma_22, ms_22, ma_23, ms_23, ma_24, ms_24, ma_25, ms_25, ma_26, ms_26, ma_27, ms_27, ma_28, ms_28, ma_29, ms_29, ma_30, ms_30, ma_31, ms_31, ma_32, ms_32, ma_33, ms_33, ma_34, ms_34, ma_35, ms_35, ma_36, ms_36, ma_37, ms_37, ma_38, ms_38, ma_39, ms_39, ma_40, ms_40, ma_41, ms_41, ma_42, ms_42, ma_43, ms_43, if_true, if_false, Option.bind_some, cb_e, lt_e, nI_1, hs_nar2, nh4, upd_at, vau_at, ma_30_18, ms_30_18, ma_31_18, ms_31_18, ma_28_0, ms_28_0, ma_28_1, ms_28_1, ma_28_2, ms_28_2, ma_28_3, ms_28_3, ma_28_4, ms_28_4, ma_42_0, ms_42_0, ma_42_1, ms_42_1, ma_42_2, ms_42_2, ma_36_0, ms_36_0, b3, if_neg nt, s7, b4, m1]
    · rw [decide_eq_false (fun q => c2 q.2)] at b1
      rw [decide_eq_true c1] at b3
      rw [decide_eq_false c2] at b4
      refine ⟨-1, mkC Fc Ac Bc rc, mkM F A B, ?_, ?_, hR⟩
      · simp -implicitDefEqProofs (disch := first | assumption | omega | decide | exact And.intro (by omega) (by omega)) only [cck_0, cr0_0, cr0_1, cr0_2, cr0_3, cg0_4, cp0_4, cg0_5, cp0_5, cck_1, cg1_0, cp1_0, cr1_1, cr1_2, cr1_3, cg1_4, cp1_4, cg1_5, cp1_5, cr1_6, cr1_7, cck_2, cr2_0, cr2_1, cr2_2, cck_3, cr3_0, cr3_1, cg3_2, cp3_2, cg3_3, cp3_3, cg3_4, cp3_4, cg3_5, cp3_5, cg3_6, cp3_6, cg3_7, cp3_7, cg3_8, cp3_8, cck_4, cg4_0, cp4_0, cg4_1, cp4_1, cr4_2, cr4_3, cr4_4, cr4_5, cck_5, cg5_0, cp5_0, cr5_1, cr5_2, cr5_3, cck_6, cg6_0, cp6_0, cg6_1, cp6_1, cck_7, cg7_0, cp7_0, cg7_1, cp7_1, cr7_2, cr7_3, cr7_4, cr7_5, cr7_6, cr7_7, cr7_8, cck_8, cr8_0, cr8_1, cck_9, cr9_0, cr9_1, cr9_2, cr9_3, cg9_4, cp9_4, cck_10, cg10_0, cp10_0, cr10_1, cr10_2, cr10_3, cr10_4, cg10_5, cp10_5, cr10_6, cr10_7, cr10_8, cg10_9, cp10_9, cg10_10, cp10_10, cr10_11, cr10_12, cr10_13, cr10_14, cck_11, cr11_0, cg11_1, cp11_1, cr11_2, cr11_3, cr11_4, cr11_5, cr11_6, cr11_7, cr11_8, cr11_9, cr11_10, cr11_11, cr11_12, cr11_13, cr11_14, ca_30, cs_30, ca_31, cs_31, ca_32, cs_32, ca_33, cs_33, ca_34, cs_34, ca_35, cs_35, ca_36, cs_36, ca_37, cs_37, ca_38, cs_38, ca_39, cs_39, ca_40, cs_40, ca_41, cs_41, ca_42, cs_42, car_20, car_21, car_22, cq11_3, cq11_4, cq3_1, cq0_0, cq0_1, if_true, if_false, Option.bind_some, cb_e, lt_e, nI_1, hs_nar2, nh4, upd_at, vau_at, ca_42_0, cs_42_0, b1, if_pos nf]
      · simp -implicitDefEqProofs (disch := first | assumption | omega | decide | exact And.intro (by omega) (by omega)) only [mck, mg_0, mp_0, mr_1, mg_2, mp_2, mr_3, mg_4, mp_4, mr_5, mr_6, mr_7, mr_8, mr_9, mg_10, mp_10, mg_11, mp_11, mg_12, mp_12, mg_13, mp_13, mg_14, mp_14, mg_15, mp_15, mg_16, mp_16, mg_17, mp_17, mg_18, mp_18, mg_19, mp_19, mg_20, mp_20, mr_21, mr_22, mr_23, mr_24, mr_25, mr_26, mr_27, mr_28, mr_29, mr_30, mr_31, mr_32, mg_33, mp_33, mr_34, mr_35, mr_36, mr_37, mr_38, mg_39, mp_39, mr_40, mr_41, mr_42, mg_43, mp_43, mr_44, mr_45, mg_46, mp_46, mr_47, mr_48, mg_49, mp_49, mg_50, mp_50, mg_51, mp_51, mr_52, mr_53, mr_54, mg_55, mp_55, mr_56, mr_57, mg_58, mp_58, mg_59, mp_59, mg_60, mp_60, mr_61, mg_62, mp_62, mr_63, mr_64, mr_65, mr_66, mr_67, mr_68, ma_1, ms_1, ma_2, ms_2, ma_3, ms_3, ma_4, ms_4, ma_5, ms_5, ma_6, ms_6, ma_7, ms_7, ma_8, ms_8, ma_9, ms_9, ma_10, ms_10, ma_11, ms_11, ma_12, ms_12, ma_13, ms_13, ma_14, ms_14, ma_15, ms_15, ma_16, ms_16, ma_17, ms_17, ma_18, ms_18, ma_19, ms_19, ma_20, ms_20, ma_21, ms_21, ma_22, ms_22, ma_23, ms_23, ma_24, ms_24, ma_25, ms_25, ma_26, ms_26, ma_27, ms_27, ma_28, ms_28, ma_29, ms_29, ma_30, ms_30, ma_31, ms_31, ma_32, ms_32, ma_33, ms_33, ma_34, ms_34, ma_35, ms_35, ma_36, ms_36, ma_37, ms_37, ma_38, ms_38, ma_39, ms_39, ma_40, ms_40, ma_41, ms_41, ma_42, ms_42, ma_43, ms_43, if_true, if_false, Option.bind_some, cb_e, lt_e, nI_1, hs_nar2, nh4, upd_at, vau_at, ma_30_18, ms_30_18, ma_31_18, ms_31_18, ma_28_0, ms_28_0, ma_28_1, ms_28_1, ma_28_2, ms_28_2, ma_28_3, ms_28_3, ma_28_4, ms_28_4, ma_42_0, ms_42_0, ma_42_1, ms_42_1, ma_42_2, ms_42_2, ma_36_0, ms_36_0, b3, if_neg nt, s7, b4, if_pos nf]
  · rw [decide_eq_false (fun q => c1 q.1)] at b1
    rw [decide_eq_false c1] at b3
    refine ⟨-1, mkC Fc Ac Bc rc, mkM F A B, ?_, ?_, hR⟩
    · simp -implicitDefEqProofs (disch := first | assumption | omega | decide | exact And.intro (by omega) (by omega)) only [cck_0, cr0_0, cr0_1, cr0_2, cr0_3, cg0_4, cp0_4, cg0_5, cp0_5, cck_1, cg1_0, cp1_0, cr1_1, cr1_2, cr1_3, cg1_4, cp1_4, cg1_5, cp1_5, cr1_6, cr1_7, cck_2, cr2_0, cr2_1, cr2_2, cck_3, cr3_0, cr3_1, cg3_2, cp3_2, cg3_3, cp3_3, cg3_4, cp3_4, cg3_5, cp3_5, cg3_6, cp3_6, cg3_7, cp3_7, cg3_8, cp3_8, cck_4, cg4_0, cp4_0, cg4_1, cp4_1, cr4_2, cr4_3, cr4_4, cr4_5, cck_5, cg5_0, cp5_0, cr5_1, cr5_2, cr5_3, cck_6, cg6_0, cp6_0, cg6_1, cp6_1, cck_7, cg7_0, cp7_0, cg7_1, cp7_1, cr7_2, cr7_3, cr7_4, cr7_5, cr7_6, cr7_7, cr7_8, cck_8, cr8_0, cr8_1, cck_9, cr9_0, cr9_1, cr9_2, cr9_3, cg9_4, cp9_4, cck_10, cg10_0, cp10_0, cr10_1, cr10_2, cr10_3, cr10_4, cg10_5, cp10_5, cr10_6, cr10_7, cr10_8, cg10_9, cp10_9, cg10_10, cp10_10, cr10_11, cr10_12, cr10_13, cr10_14, cck_11, cr11_0, cg11_1, cp11_1, cr11_2, cr11_3, cr11_4, cr11_5, cr11_6, cr11_7, cr11_8, cr11_9, cr11_10, cr11_11, cr11_12, cr11_13, cr11_14, ca_30, cs_30, ca_31, cs_31, ca_32, cs_32, ca_33, cs_33, ca_34, cs_34, ca_35, cs_35, ca_36, cs_36, ca_37, cs_37, ca_38, cs_38, ca_39, cs_39, ca_40, cs_40, ca_41, cs_41, ca_42, cs_42, car_20, car_21, car_22, cq11_3, cq11_4, cq3_1, cq0_0, cq0_1, if_true, if_false, Option.bind_some, cb_e, lt_e, nI_1, hs_nar2, nh4, upd_at, vau_at, ca_42_0, cs_42_0, b1, if_pos nf]
    · simp -implicitDefEqProofs (disch := first | assumption | omega | decide | exact And.intro (by omega) (by omega)) only [mck, mg_0, mp_0, mr_1, mg_2, mp_2, mr_3, mg_4, mp_4, mr_5, mr_6, mr_7, mr_8, mr_9, mg_10, mp_10, mg_11, mp_11, mg_12, mp_12, mg_13, mp_13, mg_14, mp_14, mg_15, mp_15, mg_16, mp_16, mg_17, mp_17, mg_18, mp_18, mg_19, mp_19, mg_20, mp_20, mr_21, mr_22, mr_23, mr_24, mr_25, mr_26, mr_27, mr_28, mr_29, mr_30, mr_31, mr_32, mg_33, mp_33, mr_34, mr_35, mr_36, mr_37, mr_38, mg_39, mp_39, mr_40, mr_41, mr_42, mg_43, mp_43, mr_44, mr_45, mg_46, mp_46, mr_47, mr_48, mg_49, mp_49, mg_50, mp_50, mg_51, mp_51, mr_52, mr_53, mr_54, mg_55, mp_55, mr_56, mr_57, mg_58, mp_58, mg_59, mp_59, mg_60, mp_60, mr_61, mg_62, mp_62, mr_63, mr_64, mr_65, mr_66, mr_67, mr_68, ma_1, ms_1, ma_2, ms_2, ma_3, ms_3, ma_4, ms_4, ma_5, ms_5, ma_6, ms_6, ma_7, ms_7, ma_8, ms_8, ma_9, ms_9, ma_10, ms_10, ma_11, ms_11, ma_12, ms_12, ma_13, ms_13, ma_14, ms_14, ma_15, ms_15, ma_16, ms_16, ma_17, ms_17, ma_18, ms_18, ma_19, ms_19, ma_20, ms_20, ma_21, ms_21, ma_22, ms_22, ma_23, ms_23, ma_24, ms_24, ma_25, ms_25, ma_26, ms_26, ma_27, ms_27, ma_28, ms_28, ma_29, ms_29, ma_30, ms_30, ma_31, ms_31, ma_32, ms_32, ma_33, ms_33, ma_34, ms_34, ma_35, ms_35, ma_36, ms_36, ma_37, ms_37, ma_38, ms_38, ma_39, ms_39, ma_40, ms_40, ma_41, ms_41, ma_42, ms_42, ma_43, ms_43, if_true, if_false, Option.bind_some, cb_e, lt_e, nI_1, hs_nar2, nh4, upd_at, vau_at, ma_30_18, ms_30_18, ma_31_18, ms_31_18, ma_28_0, ms_28_0, ma_28_1, ms_28_1, ma_28_2, ms_28_2, ma_28_3, ms_28_3, ma_28_4, ms_28_4, ma_42_0, ms_42_0, ma_42_1, ms_42_1, ma_42_2, ms_42_2, ma_36_0, ms_36_0, b3, if_pos nf]
theorem ag_span : Ag_III Rel fX11_span fX12_span := by
  intro σc σm a b c hR
  obtain ⟨F, A, B, Fc, Ac, Bc, rc, t, lv, T, u, w, ps, n7, sp, rfl, rfl, hT, hC⟩ := id hR
  obtain ⟨x, hx, rfl⟩ := iI_of a
  obtain ⟨y, hy, rfl⟩ := iI_of b
  obtain ⟨z, hz, rfl⟩ := iI_of c
  obtain ⟨b1, b3, b4⟩ := both_can hC hx hy
  obtain ⟨b5, b6⟩ := both_book hC hz
  have s7 := hC.2.2.2.2.1.2.1
  have hr0 := hC.1.2.1
  have cnb := hC.2.1.2.2.1
  have nb6 := hC.2.1.1.1
  obtain ⟨k0, k1, k2, k3, k4, k5, k6, k7, k8, k9, k10, k11⟩ := TA_of hC.t7
  have nt : ¬ b2 true = 0 := by decide
  have nf : b2 false = 0 := by decide
  unfold fX11_span fX12_span
  by_cases c1 : 1 ≤ x ∧ x ≤ 6
  · by_cases c2 : 0 ≤ y ∧ y ≤ n7
    · rw [decide_eq_true ⟨c1, c2⟩] at b1
      rw [decide_eq_true c1] at b3
      rw [decide_eq_true c2] at b4
      by_cases c3 : 0 ≤ z ∧ z < tNb T
      · obtain ⟨m, rfl⟩ : ∃ m : Nat, x = (m : Int) := ⟨x.toNat, by omega⟩
        obtain ⟨K, rfl⟩ : ∃ K : Nat, y = (K : Int) := ⟨y.toNat, by omega⟩
        obtain ⟨d, rfl⟩ : ∃ d : Nat, z = (d : Int) := ⟨z.toNat, by omega⟩
        have e3 : iI (m : Int) = nI m := rfl
        have e4 : iI (K : Int) = nI K := rfl
        have e5 : iI (d : Int) = nI d := rfl
        rw [decide_eq_true c3] at b5 b6
        rw [e3, e4] at b1
        rw [e3] at b3
        rw [e4] at b4
        rw [e5] at b5 b6
        rw [e3, e4, e5]
        have hd6 : d < 6 := by omega
        obtain ⟨F1, A1, B1, m1, m2, m3⟩ := m_fillsFits hC (m := m) (K := K) (by omega) (by omega) (by omega)
        obtain ⟨Fc1, Ac1, g1, g2, g3, g4⟩ := c_search (r := rc) (B := Bc) (m := m) (K := K) (by omega) (by omega) (by omega) Fc Ac hC.cfit
        have p6 := pow66 (m := m) (n := tNb T) (by omega) nb6
        have cle := cnG_le (gM T sp (A 39) K m) (m ^ tNb T)
        by_cases c0 : cnG (gM T sp (A 39) K m) (m ^ tNb T) = 0
        · have z0 : nI (cnG (gM T sp (A 39) K m) (m ^ tNb T)) = 0 := by rw [c0]; rfl
          refine ⟨-2, mkC Fc1 Ac1 Bc rc, mkM F1 A1 B1, ?_, ?_, rel_fit hT hC m2 g2⟩
          · simp -implicitDefEqProofs (disch := first | assumption | omega | decide | exact And.intro (by omega) (by omega)) only [cck_0, cr0_0, cr0_1, cr0_2, cr0_3, cg0_4, cp0_4, cg0_5, cp0_5, cck_1, cg1_0, cp1_0, cr1_1, cr1_2, cr1_3, cg1_4, cp1_4, cg1_5, cp1_5, cr1_6, cr1_7, cck_2, cr2_0, cr2_1, cr2_2, cck_3, cr3_0, cr3_1, cg3_2, cp3_2, cg3_3, cp3_3, cg3_4, cp3_4, cg3_5, cp3_5, cg3_6, cp3_6, cg3_7, cp3_7, cg3_8, cp3_8, cck_4, cg4_0, cp4_0, cg4_1, cp4_1, cr4_2, cr4_3, cr4_4, cr4_5, cck_5, cg5_0, cp5_0, cr5_1, cr5_2, cr5_3, cck_6, cg6_0, cp6_0, cg6_1, cp6_1, cck_7, cg7_0, cp7_0, cg7_1, cp7_1, cr7_2, cr7_3, cr7_4, cr7_5, cr7_6, cr7_7, cr7_8, cck_8, cr8_0, cr8_1, cck_9, cr9_0, cr9_1, cr9_2, cr9_3, cg9_4, cp9_4, cck_10, cg10_0, cp10_0, cr10_1, cr10_2, cr10_3, cr10_4, cg10_5, cp10_5, cr10_6, cr10_7, cr10_8, cg10_9, cp10_9, cg10_10, cp10_10, cr10_11, cr10_12, cr10_13, cr10_14, cck_11, cr11_0, cg11_1, cp11_1, cr11_2, cr11_3, cr11_4, cr11_5, cr11_6, cr11_7, cr11_8, cr11_9, cr11_10, cr11_11, cr11_12, cr11_13, cr11_14, ca_30, cs_30, ca_31, cs_31, ca_32, cs_32, ca_33, cs_33, ca_34, cs_34, ca_35, cs_35, ca_36, cs_36, ca_37, cs_37, ca_38, cs_38, ca_39, cs_39, ca_40, cs_40, ca_41, cs_41, ca_42, cs_42, car_20, car_21, car_22, cq11_3, cq11_4, cq3_1, cq0_0, cq0_1, if_true, if_false, Option.bind_some, cb_e, lt_e, nI_1, hs_nar2, nh4, upd_at, vau_at, ca_42_0, cs_42_0, b1, if_neg nt, b5, hr0, cnb, g1, g3, if_pos z0]
          · simp -implicitDefEqProofs (disch := first | assumption | omega | decide | exact And.intro (by omega) (by omega)) only [mck, mg_0, mp_0, mr_1, mg_2, mp_2, mr_3, mg_4, mp_4, mr_5, mr_6, mr_7, mr_8, mr_9, mg_10, mp_10, mg_11, mp_11, mg_12, mp_12, mg_13, mp_13, mg_14, mp_14, mg_15, mp_15, mg_16, mp_16, mg_17, mp_17, mg_18, mp_18, mg_19, mp_19, mg_20, mp_20, mr_21, mr_22, mr_23, mr_24, mr_25, mr_26, mr_27, mr_28, mr_29, mr_30, mr_31, mr_32, mg_33, mp_33, mr_34, mr_35, mr_36, mr_37, mr_38, mg_39, mp_39, mr_40, mr_41, mr_42, mg_43, mp_43, mr_44, mr_45, mg_46, mp_46, mr_47, mr_48, mg_49, mp_49, mg_50, mp_50, mg_51, mp_51, mr_52, mr_53, mr_54, mg_55, mp_55, mr_56, mr_57, mg_58, mp_58, mg_59, mp_59, mg_60, mp_60, mr_61, mg_62, mp_62, mr_63, mr_64, mr_65, mr_66, mr_67, mr_68, ma_1, ms_1, ma_2, ms_2, ma_3, ms_3, ma_4, ms_4, ma_5, ms_5, ma_6, ms_6, ma_7, ms_7, ma_8, ms_8, ma_9, ms_9, ma_10, ms_10, ma_11, ms_11, ma_12, ms_12, ma_13, ms_13, ma_14, ms_14, ma_15, ms_15, ma_16, ms_16, ma_17, ms_17, ma_18, ms_18, ma_19, ms_19, ma_20, ms_20, ma_21, ms_21, ma_22, ms_22, ma_23, ms_23, ma_24, ms_24, ma_25, ms_25, ma_26, ms_26, ma_27, ms_27, ma_28, ms_28, ma_29, ms_29, ma_30, ms_30, ma_31, ms_31, ma_32, ms_32, ma_33, ms_33, ma_34, ms_34, ma_35, ms_35, ma_36, ms_36, ma_37, ms_37, ma_38, ms_38, ma_39, ms_39, ma_40, ms_40, ma_41, ms_41, ma_42, ms_42, ma_43, ms_43, if_true, if_false, Option.bind_some, cb_e, lt_e, nI_1, hs_nar2, nh4, upd_at, vau_at, ma_30_18, ms_30_18, ma_31_18, ms_31_18, ma_28_0, ms_28_0, ma_28_1, ms_28_1, ma_28_2, ms_28_2, ma_28_3, ms_28_3, ma_28_4, ms_28_4, ma_42_0, ms_42_0, ma_42_1, ms_42_1, ma_42_2, ms_42_2, ma_36_0, ms_36_0, b3, if_neg nt, s7, b4, b6, m1, if_pos z0]
        · have z0 : ¬ nI (cnG (gM T sp (A 39) K m) (m ^ tNb T)) = 0 := nI_ne0 (by omega) (by omega)
          obtain ⟨q1, q2⟩ := m3 (by omega) d (by omega)
          obtain ⟨q3, q4⟩ := g4 (by omega) d (by omega)
          refine ⟨(10 : Int32) * nI (leM (gM T sp (A 39) K m) (fun w => dgs m (tNb T) w d + 1) (m ^ tNb T)) + nI (grM (gM T sp (A 39) K m) (fun w => dgs m (tNb T) w d + 1) (m ^ tNb T)), mkC Fc1 Ac1 Bc rc, mkM F1 A1 B1, ?_, ?_, rel_fit hT hC m2 g2⟩
          · simp -implicitDefEqProofs (disch := first | assumption | omega | decide | exact And.intro (by omega) (by omega)) only [cck_0, cr0_0, cr0_1, cr0_2, cr0_3, cg0_4, cp0_4, cg0_5, cp0_5, cck_1, cg1_0, cp1_0, cr1_1, cr1_2, cr1_3, cg1_4, cp1_4, cg1_5, cp1_5, cr1_6, cr1_7, cck_2, cr2_0, cr2_1, cr2_2, cck_3, cr3_0, cr3_1, cg3_2, cp3_2, cg3_3, cp3_3, cg3_4, cp3_4, cg3_5, cp3_5, cg3_6, cp3_6, cg3_7, cp3_7, cg3_8, cp3_8, cck_4, cg4_0, cp4_0, cg4_1, cp4_1, cr4_2, cr4_3, cr4_4, cr4_5, cck_5, cg5_0, cp5_0, cr5_1, cr5_2, cr5_3, cck_6, cg6_0, cp6_0, cg6_1, cp6_1, cck_7, cg7_0, cp7_0, cg7_1, cp7_1, cr7_2, cr7_3, cr7_4, cr7_5, cr7_6, cr7_7, cr7_8, cck_8, cr8_0, cr8_1, cck_9, cr9_0, cr9_1, cr9_2, cr9_3, cg9_4, cp9_4, cck_10, cg10_0, cp10_0, cr10_1, cr10_2, cr10_3, cr10_4, cg10_5, cp10_5, cr10_6, cr10_7, cr10_8, cg10_9, cp10_9, cg10_10, cp10_10, cr10_11, cr10_12, cr10_13, cr10_14, cck_11, cr11_0, cg11_1, cp11_1, cr11_2, cr11_3, cr11_4, cr11_5, cr11_6, cr11_7, cr11_8, cr11_9, cr11_10, cr11_11, cr11_12, cr11_13, cr11_14, ca_30, cs_30, ca_31, cs_31, ca_32, cs_32, ca_33, cs_33, ca_34, cs_34, ca_35, cs_35, ca_36, cs_36, ca_37, cs_37, ca_38, cs_38, ca_39, cs_39, ca_40, cs_40, ca_41, cs_41, ca_42, cs_42, car_20, car_21, car_22, cq11_3, cq11_4, cq3_1, cq0_0, cq0_1, if_true, if_false, Option.bind_some, cb_e, lt_e, nI_1, hs_nar2, nh4, upd_at, vau_at, ca_42_0, cs_42_0, b1, if_neg nt, b5, hr0, cnb, g1, g3, if_neg z0, q3, q4]
          · simp -implicitDefEqProofs (disch := first | assumption | omega | decide | exact And.intro (by omega) (by omega)) only [mck, mg_0, mp_0, mr_1, mg_2, mp_2, mr_3, mg_4, mp_4, mr_5, mr_6, mr_7, mr_8, mr_9, mg_10, mp_10, mg_11, mp_11, mg_12, mp_12, mg_13, mp_13, mg_14, mp_14, mg_15, mp_15, mg_16, mp_16, mg_17, mp_17, mg_18, mp_18, mg_19, mp_19, mg_20, mp_20, mr_21, mr_22, mr_23, mr_24, mr_25, mr_26, mr_27, mr_28, mr_29, mr_30, mr_31, mr_32, mg_33, mp_33, mr_34, mr_35, mr_36, mr_37, mr_38, mg_39, mp_39, mr_40, mr_41, mr_42, mg_43, mp_43, mr_44, mr_45, mg_46, mp_46, mr_47, mr_48, mg_49, mp_49, mg_50, mp_50, mg_51, mp_51, mr_52, mr_53, mr_54, mg_55, mp_55, mr_56, mr_57, mg_58, mp_58, mg_59, mp_59, mg_60, mp_60, mr_61, mg_62, mp_62, mr_63, mr_64, mr_65, mr_66, mr_67, mr_68, ma_1, ms_1, ma_2, ms_2, ma_3, ms_3, ma_4, ms_4, ma_5, ms_5, ma_6, ms_6, ma_7, ms_7, ma_8, ms_8, ma_9, ms_9, ma_10, ms_10, ma_11, ms_11, ma_12, ms_12, ma_13, ms_13, ma_14, ms_14, ma_15, ms_15, ma_16, ms_16, ma_17, ms_17, ma_18, ms_18, ma_19, ms_19, ma_20, ms_20, ma_21, ms_21, ma_22, ms_22, ma_23, ms_23, ma_24, ms_24, ma_25, ms_25, ma_26, ms_26, ma_27, ms_27, ma_28, ms_28, ma_29, ms_29, ma_30, ms_30, ma_31, ms_31, ma_32, ms_32, ma_33, ms_33, ma_34, ms_34, ma_35, ms_35, ma_36, ms_36, ma_37, ms_37, ma_38, ms_38, ma_39, ms_39, ma_40, ms_40, ma_41, ms_41, ma_42, ms_42, ma_43, ms_43, if_true, if_false, Option.bind_some, cb_e, lt_e, nI_1, hs_nar2, nh4, upd_at, vau_at, ma_30_18, ms_30_18, ma_31_18, ms_31_18, ma_28_0, ms_28_0, ma_28_1, ms_28_1, ma_28_2, ms_28_2, ma_28_3, ms_28_3, ma_28_4, ms_28_4, ma_42_0, ms_42_0, ma_42_1, ms_42_1, ma_42_2, ms_42_2, ma_36_0, ms_36_0, b3, if_neg nt, s7, b4, b6, m1, if_neg z0, q1, q2]
      · rw [decide_eq_false c3] at b5 b6
        refine ⟨-1, mkC Fc Ac Bc rc, mkM F A B, ?_, ?_, hR⟩
        · simp -implicitDefEqProofs (disch := first | assumption | omega | decide | exact And.intro (by omega) (by omega)) only [cck_0, cr0_0, cr0_1, cr0_2, cr0_3, cg0_4, cp0_4, cg0_5, cp0_5, cck_1, cg1_0, cp1_0, cr1_1, cr1_2, cr1_3, cg1_4, cp1_4, cg1_5, cp1_5, cr1_6, cr1_7, cck_2, cr2_0, cr2_1, cr2_2, cck_3, cr3_0, cr3_1, cg3_2, cp3_2, cg3_3, cp3_3, cg3_4, cp3_4, cg3_5, cp3_5, cg3_6, cp3_6, cg3_7, cp3_7, cg3_8, cp3_8, cck_4, cg4_0, cp4_0, cg4_1, cp4_1, cr4_2, cr4_3, cr4_4, cr4_5, cck_5, cg5_0, cp5_0, cr5_1, cr5_2, cr5_3, cck_6, cg6_0, cp6_0, cg6_1, cp6_1, cck_7, cg7_0, cp7_0, cg7_1, cp7_1, cr7_2, cr7_3, cr7_4, cr7_5, cr7_6, cr7_7, cr7_8, cck_8, cr8_0, cr8_1, cck_9, cr9_0, cr9_1, cr9_2, cr9_3, cg9_4, cp9_4, cck_10, cg10_0, cp10_0, cr10_1, cr10_2, cr10_3, cr10_4, cg10_5, cp10_5, cr10_6, cr10_7, cr10_8, cg10_9, cp10_9, cg10_10, cp10_10, cr10_11, cr10_12, cr10_13, cr10_14, cck_11, cr11_0, cg11_1, cp11_1, cr11_2, cr11_3, cr11_4, cr11_5, cr11_6, cr11_7, cr11_8, cr11_9, cr11_10, cr11_11, cr11_12, cr11_13, cr11_14, ca_30, cs_30, ca_31, cs_31, ca_32, cs_32, ca_33, cs_33, ca_34, cs_34, ca_35, cs_35, ca_36, cs_36, ca_37, cs_37, ca_38, cs_38, ca_39, cs_39, ca_40, cs_40, ca_41, cs_41, ca_42, cs_42, car_20, car_21, car_22, cq11_3, cq11_4, cq3_1, cq0_0, cq0_1, if_true, if_false, Option.bind_some, cb_e, lt_e, nI_1, hs_nar2, nh4, upd_at, vau_at, ca_42_0, cs_42_0, b1, if_neg nt, b5, if_pos nf]
        · simp -implicitDefEqProofs (disch := first | assumption | omega | decide | exact And.intro (by omega) (by omega)) only [mck, mg_0, mp_0, mr_1, mg_2, mp_2, mr_3, mg_4, mp_4, mr_5, mr_6, mr_7, mr_8, mr_9, mg_10, mp_10, mg_11, mp_11, mg_12, mp_12, mg_13, mp_13, mg_14, mp_14, mg_15, mp_15, mg_16, mp_16, mg_17, mp_17, mg_18, mp_18, mg_19, mp_19, mg_20, mp_20, mr_21, mr_22, mr_23, mr_24, mr_25, mr_26, mr_27, mr_28, mr_29, mr_30, mr_31, mr_32, mg_33, mp_33, mr_34, mr_35, mr_36, mr_37, mr_38, mg_39, mp_39, mr_40, mr_41, mr_42, mg_43, mp_43, mr_44, mr_45, mg_46, mp_46, mr_47, mr_48, mg_49, mp_49, mg_50, mp_50, mg_51, mp_51, mr_52, mr_53, mr_54, mg_55, mp_55, mr_56, mr_57, mg_58, mp_58, mg_59, mp_59, mg_60, mp_60, mr_61, mg_62, mp_62, mr_63, mr_64, mr_65, mr_66, mr_67, mr_68, ma_1, ms_1, ma_2, ms_2, ma_3, ms_3, ma_4, ms_4, ma_5, ms_5, ma_6, ms_6, ma_7, ms_7, ma_8, ms_8, ma_9, ms_9, ma_10, ms_10, ma_11, ms_11, ma_12, ms_12, ma_13, ms_13, ma_14, ms_14, ma_15, ms_15, ma_16, ms_16, ma_17, ms_17, ma_18, ms_18, ma_19, ms_19, ma_20, ms_20, ma_21, ms_21, ma_22, ms_22, ma_23, ms_23, ma_24, ms_24, ma_25, ms_25, ma_26, ms_26, ma_27, ms_27, ma_28, ms_28, ma_29, ms_29, ma_30, ms_30, ma_31, ms_31, ma_32, ms_32, ma_33, ms_33, ma_34, ms_34, ma_35, ms_35, ma_36, ms_36, ma_37, ms_37, ma_38, ms_38, ma_39, ms_39, ma_40, ms_40, ma_41, ms_41, ma_42, ms_42, ma_43, ms_43, if_true, if_false, Option.bind_some, cb_e, lt_e, nI_1, hs_nar2, nh4, upd_at, vau_at, ma_30_18, ms_30_18, ma_31_18, ms_31_18, ma_28_0, ms_28_0, ma_28_1, ms_28_1, ma_28_2, ms_28_2, ma_28_3, ms_28_3, ma_28_4, ms_28_4, ma_42_0, ms_42_0, ma_42_1, ms_42_1, ma_42_2, ms_42_2, ma_36_0, ms_36_0, b3, if_neg nt, s7, b4, b6, if_pos nf]
    · rw [decide_eq_false (fun q => c2 q.2)] at b1
      rw [decide_eq_true c1] at b3
      rw [decide_eq_false c2] at b4
      refine ⟨-1, mkC Fc Ac Bc rc, mkM F A B, ?_, ?_, hR⟩
      · simp -implicitDefEqProofs (disch := first | assumption | omega | decide | exact And.intro (by omega) (by omega)) only [cck_0, cr0_0, cr0_1, cr0_2, cr0_3, cg0_4, cp0_4, cg0_5, cp0_5, cck_1, cg1_0, cp1_0, cr1_1, cr1_2, cr1_3, cg1_4, cp1_4, cg1_5, cp1_5, cr1_6, cr1_7, cck_2, cr2_0, cr2_1, cr2_2, cck_3, cr3_0, cr3_1, cg3_2, cp3_2, cg3_3, cp3_3, cg3_4, cp3_4, cg3_5, cp3_5, cg3_6, cp3_6, cg3_7, cp3_7, cg3_8, cp3_8, cck_4, cg4_0, cp4_0, cg4_1, cp4_1, cr4_2, cr4_3, cr4_4, cr4_5, cck_5, cg5_0, cp5_0, cr5_1, cr5_2, cr5_3, cck_6, cg6_0, cp6_0, cg6_1, cp6_1, cck_7, cg7_0, cp7_0, cg7_1, cp7_1, cr7_2, cr7_3, cr7_4, cr7_5, cr7_6, cr7_7, cr7_8, cck_8, cr8_0, cr8_1, cck_9, cr9_0, cr9_1, cr9_2, cr9_3, cg9_4, cp9_4, cck_10, cg10_0, cp10_0, cr10_1, cr10_2, cr10_3, cr10_4, cg10_5, cp10_5, cr10_6, cr10_7, cr10_8, cg10_9, cp10_9, cg10_10, cp10_10, cr10_11, cr10_12, cr10_13, cr10_14, cck_11, cr11_0, cg11_1, cp11_1, cr11_2, cr11_3, cr11_4, cr11_5, cr11_6, cr11_7, cr11_8, cr11_9, cr11_10, cr11_11, cr11_12, cr11_13, cr11_14, ca_30, cs_30, ca_31, cs_31, ca_32, cs_32, ca_33, cs_33, ca_34, cs_34, ca_35, cs_35, ca_36, cs_36, ca_37, cs_37, ca_38, cs_38, ca_39, cs_39, ca_40, cs_40, ca_41, cs_41, ca_42, cs_42, car_20, car_21, car_22, cq11_3, cq11_4, cq3_1, cq0_0, cq0_1, if_true, if_false, Option.bind_some, cb_e, lt_e, nI_1, hs_nar2, nh4, upd_at, vau_at, ca_42_0, cs_42_0, b1, if_pos nf]
      · simp -implicitDefEqProofs (disch := first | assumption | omega | decide | exact And.intro (by omega) (by omega)) only [mck, mg_0, mp_0, mr_1, mg_2, mp_2, mr_3, mg_4, mp_4, mr_5, mr_6, mr_7, mr_8, mr_9, mg_10, mp_10, mg_11, mp_11, mg_12, mp_12, mg_13, mp_13, mg_14, mp_14, mg_15, mp_15, mg_16, mp_16, mg_17, mp_17, mg_18, mp_18, mg_19, mp_19, mg_20, mp_20, mr_21, mr_22, mr_23, mr_24, mr_25, mr_26, mr_27, mr_28, mr_29, mr_30, mr_31, mr_32, mg_33, mp_33, mr_34, mr_35, mr_36, mr_37, mr_38, mg_39, mp_39, mr_40, mr_41, mr_42, mg_43, mp_43, mr_44, mr_45, mg_46, mp_46, mr_47, mr_48, mg_49, mp_49, mg_50, mp_50, mg_51, mp_51, mr_52, mr_53, mr_54, mg_55, mp_55, mr_56, mr_57, mg_58, mp_58, mg_59, mp_59, mg_60, mp_60, mr_61, mg_62, mp_62, mr_63, mr_64, mr_65, mr_66, mr_67, mr_68, ma_1, ms_1, ma_2, ms_2, ma_3, ms_3, ma_4, ms_4, ma_5, ms_5, ma_6, ms_6, ma_7, ms_7, ma_8, ms_8, ma_9, ms_9, ma_10, ms_10, ma_11, ms_11, ma_12, ms_12, ma_13, ms_13, ma_14, ms_14, ma_15, ms_15, ma_16, ms_16, ma_17, ms_17, ma_18, ms_18, ma_19, ms_19, ma_20, ms_20, ma_21, ms_21, ma_22, ms_22, ma_23, ms_23, ma_24, ms_24, ma_25, ms_25, ma_26, ms_26, ma_27, ms_27, ma_28, ms_28, ma_29, ms_29, ma_30, ms_30, ma_31, ms_31, ma_32, ms_32, ma_33, ms_33, ma_34, ms_34, ma_35, ms_35, ma_36, ms_36, ma_37, ms_37, ma_38, ms_38, ma_39, ms_39, ma_40, ms_40, ma_41, ms_41, ma_42, ms_42, ma_43, ms_43, if_true, if_false, Option.bind_some, cb_e, lt_e, nI_1, hs_nar2, nh4, upd_at, vau_at, ma_30_18, ms_30_18, ma_31_18, ms_31_18, ma_28_0, ms_28_0, ma_28_1, ms_28_1, ma_28_2, ms_28_2, ma_28_3, ms_28_3, ma_28_4, ms_28_4, ma_42_0, ms_42_0, ma_42_1, ms_42_1, ma_42_2, ms_42_2, ma_36_0, ms_36_0, b3, if_neg nt, s7, b4, if_pos nf]
  · rw [decide_eq_false (fun q => c1 q.1)] at b1
    rw [decide_eq_false c1] at b3
    refine ⟨-1, mkC Fc Ac Bc rc, mkM F A B, ?_, ?_, hR⟩
    · simp -implicitDefEqProofs (disch := first | assumption | omega | decide | exact And.intro (by omega) (by omega)) only [cck_0, cr0_0, cr0_1, cr0_2, cr0_3, cg0_4, cp0_4, cg0_5, cp0_5, cck_1, cg1_0, cp1_0, cr1_1, cr1_2, cr1_3, cg1_4, cp1_4, cg1_5, cp1_5, cr1_6, cr1_7, cck_2, cr2_0, cr2_1, cr2_2, cck_3, cr3_0, cr3_1, cg3_2, cp3_2, cg3_3, cp3_3, cg3_4, cp3_4, cg3_5, cp3_5, cg3_6, cp3_6, cg3_7, cp3_7, cg3_8, cp3_8, cck_4, cg4_0, cp4_0, cg4_1, cp4_1, cr4_2, cr4_3, cr4_4, cr4_5, cck_5, cg5_0, cp5_0, cr5_1, cr5_2, cr5_3, cck_6, cg6_0, cp6_0, cg6_1, cp6_1, cck_7, cg7_0, cp7_0, cg7_1, cp7_1, cr7_2, cr7_3, cr7_4, cr7_5, cr7_6, cr7_7, cr7_8, cck_8, cr8_0, cr8_1, cck_9, cr9_0, cr9_1, cr9_2, cr9_3, cg9_4, cp9_4, cck_10, cg10_0, cp10_0, cr10_1, cr10_2, cr10_3, cr10_4, cg10_5, cp10_5, cr10_6, cr10_7, cr10_8, cg10_9, cp10_9, cg10_10, cp10_10, cr10_11, cr10_12, cr10_13, cr10_14, cck_11, cr11_0, cg11_1, cp11_1, cr11_2, cr11_3, cr11_4, cr11_5, cr11_6, cr11_7, cr11_8, cr11_9, cr11_10, cr11_11, cr11_12, cr11_13, cr11_14, ca_30, cs_30, ca_31, cs_31, ca_32, cs_32, ca_33, cs_33, ca_34, cs_34, ca_35, cs_35, ca_36, cs_36, ca_37, cs_37, ca_38, cs_38, ca_39, cs_39, ca_40, cs_40, ca_41, cs_41, ca_42, cs_42, car_20, car_21, car_22, cq11_3, cq11_4, cq3_1, cq0_0, cq0_1, if_true, if_false, Option.bind_some, cb_e, lt_e, nI_1, hs_nar2, nh4, upd_at, vau_at, ca_42_0, cs_42_0, b1, if_pos nf]
    · simp -implicitDefEqProofs (disch := first | assumption | omega | decide | exact And.intro (by omega) (by omega)) only [mck, mg_0, mp_0, mr_1, mg_2, mp_2, mr_3, mg_4, mp_4, mr_5, mr_6, mr_7, mr_8, mr_9, mg_10, mp_10, mg_11, mp_11, mg_12, mp_12, mg_13, mp_13, mg_14, mp_14, mg_15, mp_15, mg_16, mp_16, mg_17, mp_17, mg_18, mp_18, mg_19, mp_19, mg_20, mp_20, mr_21, mr_22, mr_23, mr_24, mr_25, mr_26, mr_27, mr_28, mr_29, mr_30, mr_31, mr_32, mg_33, mp_33, mr_34, mr_35, mr_36, mr_37, mr_38, mg_39, mp_39, mr_40, mr_41, mr_42, mg_43, mp_43, mr_44, mr_45, mg_46, mp_46, mr_47, mr_48, mg_49, mp_49, mg_50, mp_50, mg_51, mp_51, mr_52, mr_53, mr_54, mg_55, mp_55, mr_56, mr_57, mg_58, mp_58, mg_59, mp_59, mg_60, mp_60, mr_61, mg_62, mp_62, mr_63, mr_64, mr_65, mr_66, mr_67, mr_68, ma_1, ms_1, ma_2, ms_2, ma_3, ms_3, ma_4, ms_4, ma_5, ms_5, ma_6, ms_6, ma_7, ms_7, ma_8, ms_8, ma_9, ms_9, ma_10, ms_10, ma_11, ms_11, ma_12, ms_12, ma_13, ms_13, ma_14, ms_14, ma_15, ms_15, ma_16, ms_16, ma_17, ms_17, ma_18, ms_18, ma_19, ms_19, ma_20, ms_20, ma_21, ms_21, ma_22, ms_22, ma_23, ms_23, ma_24, ms_24, ma_25, ms_25, ma_26, ms_26, ma_27, ms_27, ma_28, ms_28, ma_29, ms_29, ma_30, ms_30, ma_31, ms_31, ma_32, ms_32, ma_33, ms_33, ma_34, ms_34, ma_35, ms_35, ma_36, ms_36, ma_37, ms_37, ma_38, ms_38, ma_39, ms_39, ma_40, ms_40, ma_41, ms_41, ma_42, ms_42, ma_43, ms_43, if_true, if_false, Option.bind_some, cb_e, lt_e, nI_1, hs_nar2, nh4, upd_at, vau_at, ma_30_18, ms_30_18, ma_31_18, ms_31_18, ma_28_0, ms_28_0, ma_28_1, ms_28_1, ma_28_2, ms_28_2, ma_28_3, ms_28_3, ma_28_4, ms_28_4, ma_42_0, ms_42_0, ma_42_1, ms_42_1, ma_42_2, ms_42_2, ma_36_0, ms_36_0, b3, if_pos nf]
