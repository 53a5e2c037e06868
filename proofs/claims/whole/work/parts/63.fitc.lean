/-! ===== fits, span: the class's count ===== -/
theorem rk_surj {Q : Nat → Bool} : ∀ n j, j < rk Q n → ∃ b, b < n ∧ Q b = true ∧ rk Q b = j
  | 0, j, h => absurd h (Nat.not_lt_zero j)
  | n + 1, j, h => by
    rw [rk] at h
    by_cases c : Q n = true
    · rw [if_pos c] at h
      by_cases e : j = rk Q n
      · exact ⟨n, by omega, c, e.symm⟩
      · obtain ⟨b, b1, b2, b3⟩ := rk_surj (Q := Q) n j (by omega)
        exact ⟨b, by omega, b2, b3⟩
    · rw [if_neg c] at h
      obtain ⟨b, b1, b2, b3⟩ := rk_surj (Q := Q) n j (by omega)
      exact ⟨b, by omega, b2, b3⟩
theorem rk_inj {Q : Nat → Bool} {a b : Nat} (ha : Q a = true) (hb : Q b = true) (h : rk Q a = rk Q b) : a = b := by
  apply Classical.byContradiction
  intro hn
  by_cases c : a < b
  · have := rk_lt ha b c
    omega
  · have := rk_lt hb a (by omega)
    omega
def gC (T : TD) (sp : Nat → AP) (sd : Nat → Int32) (K m : Nat) (Q : Nat → Bool) (i : Nat) : Bool := soF T sp sd (trD (tNb T) (asg m Q (tNb T) i)) K 0
section CF3
variable {T : TD} {n7 : Nat} {sp : Nat → AP} {sd : Nat → Int32} {r : Nat → Nat} {B : Nat → Nat → Int64}
theorem c_prep_go {K m : Nat} (hK : K ≤ n7) (hm : 0 < m) (hm6 : m ≤ 6) {Q : Nat → Bool} (hQ : Q = fun b => askI sp b K 0) : ∀ k x fuel, x + k = tNb T → k < fuel → ∀ (F A : Nat → Nat → Int32), CFit F A T n7 sp sd → F 69 4 = nI (rk Q x) → (∀ b, b < x → Q b = true → A 72 (rk Q b) = nI b) → (∀ b, b < x → A 73 b = nI (if Q b then m else 1) ∧ A 74 b = nI (if Q b then 1 else m)) → ∃ F' A', fX1_prepare_b11 fuel 69 (nI (tNb T)) (nI m) (nI K) (nI (m ^ fq Q x)) (nI x) (mkC F A B r) = some (nI (m ^ fq Q (tNb T)), mkC F' A' B r) ∧ CV F F' A A' ∧ F' 69 4 = nI (rk Q (tNb T)) ∧ (∀ b, b < tNb T → Q b = true → A' 72 (rk Q b) = nI b) ∧ ∀ b, b < tNb T → A' 73 b = nI (if Q b then m else 1) ∧ A' 74 b = nI (if Q b then 1 else m) := by
  intro k
  induction k with
  | zero =>
    intro x fuel h1 h2 F A hF a1 a2 a3
    obtain ⟨fuel, rfl⟩ : ∃ q, fuel = q + 1 := ⟨fuel - 1, by omega⟩
    have nb6 := hF.1.1
    have : x = tNb T := by omega
    subst this
    rw [fX1_prepare_b11, if_pos (nI_le (by omega) (by omega))]
    exact ⟨F, A, rfl, CV.rf, a1, a2, a3⟩
  | succ k ih =>
    intro x fuel h1 h2 F A hF a1 a2 a3
    obtain ⟨fuel, rfl⟩ : ∃ q, fuel = q + 1 := ⟨fuel - 1, by omega⟩
    have nb6 := hF.1.1
    have hx6 : x < 6 := by omega
    have ask := c_isAsked (B := B) (r := r) hF hK hx6
    have hqx : Q x = askI sp x K 0 := by rw [hQ]
    rw [← hqx] at ask
    have rx := rk_le (Q := Q) x
    have rx6 : rk Q x < 6 := by omega
    rw [fX1_prepare_b11, if_neg (nI_ge (by omega) (by omega)), if_neg (show ¬ (6 : Int32) ≤ nI x from nI_ge (b := 6) (by omega) (by decide))]
    simp -implicitDefEqProofs (disch := first | assumption | omega | decide | exact And.intro (by omega) (by omega)) only [cck_0, cr0_0, cr0_1, cr0_2, cr0_3, cg0_4, cp0_4, cg0_5, cp0_5, cck_1, cg1_0, cp1_0, cr1_1, cr1_2, cr1_3, cg1_4, cp1_4, cg1_5, cp1_5, cr1_6, cr1_7, cck_2, cr2_0, cr2_1, cr2_2, cck_3, cr3_0, cr3_1, cg3_2, cp3_2, cg3_3, cp3_3, cg3_4, cp3_4, cg3_5, cp3_5, cg3_6, cp3_6, cg3_7, cp3_7, cg3_8, cp3_8, cck_4, cg4_0, cp4_0, cg4_1, cp4_1, cr4_2, cr4_3, cr4_4, cr4_5, cck_5, cg5_0, cp5_0, cr5_1, cr5_2, cr5_3, cck_6, cg6_0, cp6_0, cg6_1, cp6_1, cck_7, cg7_0, cp7_0, cg7_1, cp7_1, cr7_2, cr7_3, cr7_4, cr7_5, cr7_6, cr7_7, cr7_8, cck_8, cr8_0, cr8_1, cck_9, cr9_0, cr9_1, cr9_2, cr9_3, cg9_4, cp9_4, cck_10, cg10_0, cp10_0, cr10_1, cr10_2, cr10_3, cr10_4, cg10_5, cp10_5, cr10_6, cr10_7, cr10_8, cg10_9, cp10_9, cg10_10, cp10_10, cr10_11, cr10_12, cr10_13, cr10_14, cck_11, cr11_0, cg11_1, cp11_1, cr11_2, cr11_3, cr11_4, cr11_5, cr11_6, cr11_7, cr11_8, cr11_9, cr11_10, cr11_11, cr11_12, cr11_13, cr11_14, ca_30, cs_30, ca_31, cs_31, ca_32, cs_32, ca_33, cs_33, ca_34, cs_34, ca_35, cs_35, ca_36, cs_36, ca_37, cs_37, ca_38, cs_38, ca_39, cs_39, ca_40, cs_40, ca_41, cs_41, ca_42, cs_42, car_20, car_21, car_22, cq11_3, cq11_4, cq3_1, cq0_0, cq0_1, if_true, if_false, Option.bind_some, cb_e, lt_e, nI_1, hs_nar2, nh4, upd_at, vau_at, ca_42_0, cs_42_0, ask]
    unfold fX1_prepare_b96
    cases hq : Q x with
    | false =>
      rw [if_pos (show b2 false = 0 by decide)]
      have em : nI (m ^ fq Q x) * nI m = nI (m ^ fq Q (x + 1)) := by
        rw [pk_mul, fq, hq, if_neg (by decide), ← Nat.pow_succ]
      have er : rk Q (x + 1) = rk Q x := by rw [rk, hq, if_neg (by decide)]; rfl
      simp -implicitDefEqProofs (disch := first | assumption | omega | decide | exact And.intro (by omega) (by omega)) only [cck_0, cr0_0, cr0_1, cr0_2, cr0_3, cg0_4, cp0_4, cg0_5, cp0_5, cck_1, cg1_0, cp1_0, cr1_1, cr1_2, cr1_3, cg1_4, cp1_4, cg1_5, cp1_5, cr1_6, cr1_7, cck_2, cr2_0, cr2_1, cr2_2, cck_3, cr3_0, cr3_1, cg3_2, cp3_2, cg3_3, cp3_3, cg3_4, cp3_4, cg3_5, cp3_5, cg3_6, cp3_6, cg3_7, cp3_7, cg3_8, cp3_8, cck_4, cg4_0, cp4_0, cg4_1, cp4_1, cr4_2, cr4_3, cr4_4, cr4_5, cck_5, cg5_0, cp5_0, cr5_1, cr5_2, cr5_3, cck_6, cg6_0, cp6_0, cg6_1, cp6_1, cck_7, cg7_0, cp7_0, cg7_1, cp7_1, cr7_2, cr7_3, cr7_4, cr7_5, cr7_6, cr7_7, cr7_8, cck_8, cr8_0, cr8_1, cck_9, cr9_0, cr9_1, cr9_2, cr9_3, cg9_4, cp9_4, cck_10, cg10_0, cp10_0, cr10_1, cr10_2, cr10_3, cr10_4, cg10_5, cp10_5, cr10_6, cr10_7, cr10_8, cg10_9, cp10_9, cg10_10, cp10_10, cr10_11, cr10_12, cr10_13, cr10_14, cck_11, cr11_0, cg11_1, cp11_1, cr11_2, cr11_3, cr11_4, cr11_5, cr11_6, cr11_7, cr11_8, cr11_9, cr11_10, cr11_11, cr11_12, cr11_13, cr11_14, ca_30, cs_30, ca_31, cs_31, ca_32, cs_32, ca_33, cs_33, ca_34, cs_34, ca_35, cs_35, ca_36, cs_36, ca_37, cs_37, ca_38, cs_38, ca_39, cs_39, ca_40, cs_40, ca_41, cs_41, ca_42, cs_42, car_20, car_21, car_22, cq11_3, cq11_4, cq3_1, cq0_0, cq0_1, if_true, if_false, Option.bind_some, cb_e, lt_e, nI_1, hs_nar2, nh4, upd_at, vau_at, ca_42_0, cs_42_0, em]
      obtain ⟨F', A', z1, z2, z3, z4, z5⟩ := ih (x + 1) fuel (by omega) (by omega) F (va_up (va_up A 73 (upd (A 73) x 1)) 74 (upd (va_up A 73 (upd (A 73) x 1) 74) x (nI m))) (hF.cv ⟨fun _ _ => rfl, rfl, fun c hc => by rw [vau_ne (by omega), vau_ne (by omega)]⟩) (by rw [er]; exact a1) (fun b hb q => by
        rw [vau_ne (by decide), vau_ne (by decide)]
        by_cases e : b = x
        · rw [e, hq] at q; cases q
        · exact a2 b (by omega) q) (fun b hb => by
        rw [vau_ne (by decide), vau_at, vau_at, vau_ne (by decide)]
        by_cases e : b = x
        · rw [e, upd_at, upd_at, hq, if_neg (by decide), if_neg (by decide)]
          exact ⟨rfl, rfl⟩
        · rw [upd_ne e, upd_ne e]
          exact a3 b (by omega))
      exact ⟨F', A', z1, CV.tr ⟨fun _ _ => rfl, rfl, fun c hc => by rw [vau_ne (by omega), vau_ne (by omega)]⟩ z2, z3, z4, z5⟩
    | true =>
      rw [if_neg (show ¬ b2 true = 0 by decide)]
      have em : fq Q (x + 1) = fq Q x := by rw [fq, hq, if_pos rfl]; rfl
      have er : rk Q (x + 1) = rk Q x + 1 := by rw [rk, hq, if_pos rfl]
      simp -implicitDefEqProofs (disch := first | assumption | omega | decide | exact And.intro (by omega) (by omega)) only [cck_0, cr0_0, cr0_1, cr0_2, cr0_3, cg0_4, cp0_4, cg0_5, cp0_5, cck_1, cg1_0, cp1_0, cr1_1, cr1_2, cr1_3, cg1_4, cp1_4, cg1_5, cp1_5, cr1_6, cr1_7, cck_2, cr2_0, cr2_1, cr2_2, cck_3, cr3_0, cr3_1, cg3_2, cp3_2, cg3_3, cp3_3, cg3_4, cp3_4, cg3_5, cp3_5, cg3_6, cp3_6, cg3_7, cp3_7, cg3_8, cp3_8, cck_4, cg4_0, cp4_0, cg4_1, cp4_1, cr4_2, cr4_3, cr4_4, cr4_5, cck_5, cg5_0, cp5_0, cr5_1, cr5_2, cr5_3, cck_6, cg6_0, cp6_0, cg6_1, cp6_1, cck_7, cg7_0, cp7_0, cg7_1, cp7_1, cr7_2, cr7_3, cr7_4, cr7_5, cr7_6, cr7_7, cr7_8, cck_8, cr8_0, cr8_1, cck_9, cr9_0, cr9_1, cr9_2, cr9_3, cg9_4, cp9_4, cck_10, cg10_0, cp10_0, cr10_1, cr10_2, cr10_3, cr10_4, cg10_5, cp10_5, cr10_6, cr10_7, cr10_8, cg10_9, cp10_9, cg10_10, cp10_10, cr10_11, cr10_12, cr10_13, cr10_14, cck_11, cr11_0, cg11_1, cp11_1, cr11_2, cr11_3, cr11_4, cr11_5, cr11_6, cr11_7, cr11_8, cr11_9, cr11_10, cr11_11, cr11_12, cr11_13, cr11_14, ca_30, cs_30, ca_31, cs_31, ca_32, cs_32, ca_33, cs_33, ca_34, cs_34, ca_35, cs_35, ca_36, cs_36, ca_37, cs_37, ca_38, cs_38, ca_39, cs_39, ca_40, cs_40, ca_41, cs_41, ca_42, cs_42, car_20, car_21, car_22, cq11_3, cq11_4, cq3_1, cq0_0, cq0_1, if_true, if_false, Option.bind_some, cb_e, lt_e, nI_1, hs_nar2, nh4, upd_at, vau_at, ca_42_0, cs_42_0, a1]
      obtain ⟨F', A', z1, z2, z3, z4, z5⟩ := ih (x + 1) fuel (by omega) (by omega) (va_up F 69 (upd (F 69) 4 (nI (rk Q x + 1)))) (va_up (va_up (va_up A 72 (upd (A 72) (rk Q x) (nI x))) 73 (upd (va_up A 72 (upd (A 72) (rk Q x) (nI x)) 73) x (nI m))) 74 (upd (va_up (va_up A 72 (upd (A 72) (rk Q x) (nI x))) 73 (upd (va_up A 72 (upd (A 72) (rk Q x) (nI x)) 73) x (nI m)) 74) x 1)) (hF.cv ⟨fun c hc => vau_ne hc, by rw [vau_at, upd_ne (by decide)], fun c hc => by rw [vau_ne (by omega), vau_ne (by omega), vau_ne (by omega)]⟩) (by rw [vau_at, upd_at, er]) (fun b hb q => by
        rw [vau_ne (by decide), vau_ne (by decide), vau_at]
        by_cases e : b = x
        · rw [e, upd_at]
        · rw [upd_ne (fun z => e (rk_inj q hq z))]
          exact a2 b (by omega) q) (fun b hb => by
        rw [vau_ne (by decide), vau_at, vau_at, vau_ne (by decide), vau_ne (by decide), vau_ne (by decide)]
        by_cases e : b = x
        · rw [e, upd_at, upd_at, hq, if_pos rfl, if_pos rfl]
          exact ⟨rfl, rfl⟩
        · rw [upd_ne e, upd_ne e]
          exact a3 b (by omega))
      rw [em] at z1
      exact ⟨F', A', z1, CV.tr ⟨fun c hc => vau_ne hc, by rw [vau_at, upd_ne (by decide)], fun c hc => by rw [vau_ne (by omega), vau_ne (by omega), vau_ne (by omega)]⟩ z2, z3, z4, z5⟩
theorem c_fill_go {F : Nat → Nat → Int32} {nb m i : Nat} (hnb : nb ≤ 6) (hm : 0 < m) (hm6 : m ≤ 6) (hi : i < 2 ^ 31) {Q : Nat → Bool} (h4 : F 69 4 = nI (rk Q nb)) : ∀ k j fuel, j + k = rk Q nb → k < fuel → ∀ (A : Nat → Nat → Int32), (∀ b, b < nb → Q b = true → A 72 (rk Q b) = nI b) → (∀ b, b < nb → Q b = true → rk Q b < j → A 71 b = nI (asg m Q nb i b + 1)) → ∃ A', fX1_fillRow_b5 fuel 69 (nI m) (nI (i / m ^ j)) (nI j) (mkC F A B r) = some ((), mkC F A' B r) ∧ (∀ b, b < nb → Q b = true → A' 71 b = nI (asg m Q nb i b + 1)) ∧ ∀ c, ¬ c = 71 → A' c = A c := by
  have m0 : ¬ nI m = 0 := nI_ne0 hm (by omega)
  have hq6 := rk_le (Q := Q) nb
  intro k
  induction k with
  | zero =>
    intro j fuel h1 h2 A a1 a2
    obtain ⟨fuel, rfl⟩ : ∃ q, fuel = q + 1 := ⟨fuel - 1, by omega⟩
    rw [fX1_fillRow_b5]
    simp -implicitDefEqProofs (disch := first | assumption | omega | decide | exact And.intro (by omega) (by omega)) only [cck_0, cr0_0, cr0_1, cr0_2, cr0_3, cg0_4, cp0_4, cg0_5, cp0_5, cck_1, cg1_0, cp1_0, cr1_1, cr1_2, cr1_3, cg1_4, cp1_4, cg1_5, cp1_5, cr1_6, cr1_7, cck_2, cr2_0, cr2_1, cr2_2, cck_3, cr3_0, cr3_1, cg3_2, cp3_2, cg3_3, cp3_3, cg3_4, cp3_4, cg3_5, cp3_5, cg3_6, cp3_6, cg3_7, cp3_7, cg3_8, cp3_8, cck_4, cg4_0, cp4_0, cg4_1, cp4_1, cr4_2, cr4_3, cr4_4, cr4_5, cck_5, cg5_0, cp5_0, cr5_1, cr5_2, cr5_3, cck_6, cg6_0, cp6_0, cg6_1, cp6_1, cck_7, cg7_0, cp7_0, cg7_1, cp7_1, cr7_2, cr7_3, cr7_4, cr7_5, cr7_6, cr7_7, cr7_8, cck_8, cr8_0, cr8_1, cck_9, cr9_0, cr9_1, cr9_2, cr9_3, cg9_4, cp9_4, cck_10, cg10_0, cp10_0, cr10_1, cr10_2, cr10_3, cr10_4, cg10_5, cp10_5, cr10_6, cr10_7, cr10_8, cg10_9, cp10_9, cg10_10, cp10_10, cr10_11, cr10_12, cr10_13, cr10_14, cck_11, cr11_0, cg11_1, cp11_1, cr11_2, cr11_3, cr11_4, cr11_5, cr11_6, cr11_7, cr11_8, cr11_9, cr11_10, cr11_11, cr11_12, cr11_13, cr11_14, ca_30, cs_30, ca_31, cs_31, ca_32, cs_32, ca_33, cs_33, ca_34, cs_34, ca_35, cs_35, ca_36, cs_36, ca_37, cs_37, ca_38, cs_38, ca_39, cs_39, ca_40, cs_40, ca_41, cs_41, ca_42, cs_42, car_20, car_21, car_22, cq11_3, cq11_4, cq3_1, cq0_0, cq0_1, if_true, if_false, Option.bind_some, cb_e, lt_e, nI_1, hs_nar2, nh4, upd_at, vau_at, ca_42_0, cs_42_0, h4]
    rw [if_pos (nI_le (by omega) (by omega))]
    exact ⟨A, rfl, fun b hb hq => a2 b hb hq (by have := rk_lt hq nb hb; omega), fun _ _ => rfl⟩
  | succ k ih =>
    intro j fuel h1 h2 A a1 a2
    obtain ⟨fuel, rfl⟩ : ∃ q, fuel = q + 1 := ⟨fuel - 1, by omega⟩
    obtain ⟨b, b1, b2, b3⟩ := rk_surj (Q := Q) nb j (by omega)
    have e72 := a1 b b1 b2
    rw [b3] at e72
    have hj6 : j < 6 := by omega
    have hb6 : b < 6 := by omega
    have hwx : i / m ^ j < 2 ^ 31 := Nat.lt_of_le_of_lt (Nat.div_le_self _ _) hi
    have er : hs_rem (nI (i / m ^ j)) (nI m) = nI (i / m ^ j % m) := pk_rem hwx hm (by omega)
    have ed : nI (i / m ^ j) / nI m = nI (i / m ^ (j + 1)) := by
      rw [pk_div hwx hm (by omega), Nat.div_div_eq_div_mul, ← Nat.pow_succ]
    have e1 : (1 : Int32) + nI (i / m ^ j % m) = nI (asg m Q nb i b + 1) := by
      have q : (1 : Int32) + nI (i / m ^ j % m) = nI (1 + i / m ^ j % m) := nI_add 1 _
      rw [q]
      unfold asg
      rw [if_pos ⟨b1, b2⟩, b3, Nat.add_comm]
    rw [fX1_fillRow_b5]
    simp -implicitDefEqProofs (disch := first | assumption | omega | decide | exact And.intro (by omega) (by omega)) only [cck_0, cr0_0, cr0_1, cr0_2, cr0_3, cg0_4, cp0_4, cg0_5, cp0_5, cck_1, cg1_0, cp1_0, cr1_1, cr1_2, cr1_3, cg1_4, cp1_4, cg1_5, cp1_5, cr1_6, cr1_7, cck_2, cr2_0, cr2_1, cr2_2, cck_3, cr3_0, cr3_1, cg3_2, cp3_2, cg3_3, cp3_3, cg3_4, cp3_4, cg3_5, cp3_5, cg3_6, cp3_6, cg3_7, cp3_7, cg3_8, cp3_8, cck_4, cg4_0, cp4_0, cg4_1, cp4_1, cr4_2, cr4_3, cr4_4, cr4_5, cck_5, cg5_0, cp5_0, cr5_1, cr5_2, cr5_3, cck_6, cg6_0, cp6_0, cg6_1, cp6_1, cck_7, cg7_0, cp7_0, cg7_1, cp7_1, cr7_2, cr7_3, cr7_4, cr7_5, cr7_6, cr7_7, cr7_8, cck_8, cr8_0, cr8_1, cck_9, cr9_0, cr9_1, cr9_2, cr9_3, cg9_4, cp9_4, cck_10, cg10_0, cp10_0, cr10_1, cr10_2, cr10_3, cr10_4, cg10_5, cp10_5, cr10_6, cr10_7, cr10_8, cg10_9, cp10_9, cg10_10, cp10_10, cr10_11, cr10_12, cr10_13, cr10_14, cck_11, cr11_0, cg11_1, cp11_1, cr11_2, cr11_3, cr11_4, cr11_5, cr11_6, cr11_7, cr11_8, cr11_9, cr11_10, cr11_11, cr11_12, cr11_13, cr11_14, ca_30, cs_30, ca_31, cs_31, ca_32, cs_32, ca_33, cs_33, ca_34, cs_34, ca_35, cs_35, ca_36, cs_36, ca_37, cs_37, ca_38, cs_38, ca_39, cs_39, ca_40, cs_40, ca_41, cs_41, ca_42, cs_42, car_20, car_21, car_22, cq11_3, cq11_4, cq3_1, cq0_0, cq0_1, if_true, if_false, Option.bind_some, cb_e, lt_e, nI_1, hs_nar2, nh4, upd_at, vau_at, ca_42_0, cs_42_0, h4]
    rw [if_neg (nI_ge (by omega) (by omega)), if_neg (nI_nle hm (by omega))]
    simp -implicitDefEqProofs (disch := first | assumption | omega | decide | exact And.intro (by omega) (by omega)) only [cck_0, cr0_0, cr0_1, cr0_2, cr0_3, cg0_4, cp0_4, cg0_5, cp0_5, cck_1, cg1_0, cp1_0, cr1_1, cr1_2, cr1_3, cg1_4, cp1_4, cg1_5, cp1_5, cr1_6, cr1_7, cck_2, cr2_0, cr2_1, cr2_2, cck_3, cr3_0, cr3_1, cg3_2, cp3_2, cg3_3, cp3_3, cg3_4, cp3_4, cg3_5, cp3_5, cg3_6, cp3_6, cg3_7, cp3_7, cg3_8, cp3_8, cck_4, cg4_0, cp4_0, cg4_1, cp4_1, cr4_2, cr4_3, cr4_4, cr4_5, cck_5, cg5_0, cp5_0, cr5_1, cr5_2, cr5_3, cck_6, cg6_0, cp6_0, cg6_1, cp6_1, cck_7, cg7_0, cp7_0, cg7_1, cp7_1, cr7_2, cr7_3, cr7_4, cr7_5, cr7_6, cr7_7, cr7_8, cck_8, cr8_0, cr8_1, cck_9, cr9_0, cr9_1, cr9_2, cr9_3, cg9_4, cp9_4, cck_10, cg10_0, cp10_0, cr10_1, cr10_2, cr10_3, cr10_4, cg10_5, cp10_5, cr10_6, cr10_7, cr10_8, cg10_9, cp10_9, cg10_10, cp10_10, cr10_11, cr10_12, cr10_13, cr10_14, cck_11, cr11_0, cg11_1, cp11_1, cr11_2, cr11_3, cr11_4, cr11_5, cr11_6, cr11_7, cr11_8, cr11_9, cr11_10, cr11_11, cr11_12, cr11_13, cr11_14, ca_30, cs_30, ca_31, cs_31, ca_32, cs_32, ca_33, cs_33, ca_34, cs_34, ca_35, cs_35, ca_36, cs_36, ca_37, cs_37, ca_38, cs_38, ca_39, cs_39, ca_40, cs_40, ca_41, cs_41, ca_42, cs_42, car_20, car_21, car_22, cq11_3, cq11_4, cq3_1, cq0_0, cq0_1, if_true, if_false, Option.bind_some, cb_e, lt_e, nI_1, hs_nar2, nh4, upd_at, vau_at, ca_42_0, cs_42_0, e72, if_neg m0, er, e1, ed]
    obtain ⟨A', z1, z2, z3⟩ := ih (j + 1) fuel (by omega) (by omega) (va_up A 71 (upd (A 71) b (nI (asg m Q nb i b + 1)))) (fun c c1 c2 => by rw [vau_ne (by decide)]; exact a1 c c1 c2) (fun c c1 c2 c3 => by
      rw [vau_at]
      by_cases e : c = b
      · rw [e, upd_at]
      · rw [upd_ne e]
        exact a2 c c1 c2 (by
          have : ¬ rk Q c = j := fun z => e (rk_inj c2 b2 (by omega))
          omega))
    exact ⟨A', z1, z2, fun c hc => by rw [z3 c hc, vau_ne hc]⟩
theorem c_widen_go {F : Nat → Nat → Int32} {nb : Nat} (hnb : nb ≤ 6) {Q : Nat → Bool} (h4 : F 69 4 = nI (rk Q nb)) {tv le gr : Nat → Nat} (htv : ∀ b, tv b < 100) (hle : ∀ b, le b < 100) (hgr : ∀ b, gr b < 100) : ∀ k j fuel, j + k = rk Q nb → k < fuel → ∀ (A : Nat → Nat → Int32), (∀ b, b < nb → Q b = true → A 72 (rk Q b) = nI b ∧ A 71 b = nI (tv b)) → (∀ b, b < nb → Q b = true → rk Q b < j → A 73 b = nI (min (le b) (tv b)) ∧ A 74 b = nI (max (gr b) (tv b))) → (∀ b, b < nb → Q b = true → j ≤ rk Q b → A 73 b = nI (le b) ∧ A 74 b = nI (gr b)) → ∃ A', fX1_widen_b2 fuel 69 (nI j) (mkC F A B r) = some ((), mkC F A' B r) ∧ (∀ b, b < nb → Q b = true → A' 73 b = nI (min (le b) (tv b)) ∧ A' 74 b = nI (max (gr b) (tv b))) ∧ (∀ b, Q b = false → A' 73 b = A 73 b ∧ A' 74 b = A 74 b) ∧ ∀ c, ¬ c = 73 → ¬ c = 74 → A' c = A c := by
  have hq6 := rk_le (Q := Q) nb
  intro k
  induction k with
  | zero =>
    intro j fuel h1 h2 A a1 a2 a3
    obtain ⟨fuel, rfl⟩ : ∃ q, fuel = q + 1 := ⟨fuel - 1, by omega⟩
    rw [fX1_widen_b2]
    simp -implicitDefEqProofs (disch := first | assumption | omega | decide | exact And.intro (by omega) (by omega)) only [cck_0, cr0_0, cr0_1, cr0_2, cr0_3, cg0_4, cp0_4, cg0_5, cp0_5, cck_1, cg1_0, cp1_0, cr1_1, cr1_2, cr1_3, cg1_4, cp1_4, cg1_5, cp1_5, cr1_6, cr1_7, cck_2, cr2_0, cr2_1, cr2_2, cck_3, cr3_0, cr3_1, cg3_2, cp3_2, cg3_3, cp3_3, cg3_4, cp3_4, cg3_5, cp3_5, cg3_6, cp3_6, cg3_7, cp3_7, cg3_8, cp3_8, cck_4, cg4_0, cp4_0, cg4_1, cp4_1, cr4_2, cr4_3, cr4_4, cr4_5, cck_5, cg5_0, cp5_0, cr5_1, cr5_2, cr5_3, cck_6, cg6_0, cp6_0, cg6_1, cp6_1, cck_7, cg7_0, cp7_0, cg7_1, cp7_1, cr7_2, cr7_3, cr7_4, cr7_5, cr7_6, cr7_7, cr7_8, cck_8, cr8_0, cr8_1, cck_9, cr9_0, cr9_1, cr9_2, cr9_3, cg9_4, cp9_4, cck_10, cg10_0, cp10_0, cr10_1, cr10_2, cr10_3, cr10_4, cg10_5, cp10_5, cr10_6, cr10_7, cr10_8, cg10_9, cp10_9, cg10_10, cp10_10, cr10_11, cr10_12, cr10_13, cr10_14, cck_11, cr11_0, cg11_1, cp11_1, cr11_2, cr11_3, cr11_4, cr11_5, cr11_6, cr11_7, cr11_8, cr11_9, cr11_10, cr11_11, cr11_12, cr11_13, cr11_14, ca_30, cs_30, ca_31, cs_31, ca_32, cs_32, ca_33, cs_33, ca_34, cs_34, ca_35, cs_35, ca_36, cs_36, ca_37, cs_37, ca_38, cs_38, ca_39, cs_39, ca_40, cs_40, ca_41, cs_41, ca_42, cs_42, car_20, car_21, car_22, cq11_3, cq11_4, cq3_1, cq0_0, cq0_1, if_true, if_false, Option.bind_some, cb_e, lt_e, nI_1, hs_nar2, nh4, upd_at, vau_at, ca_42_0, cs_42_0, h4]
    rw [if_pos (nI_le (by omega) (by omega))]
    exact ⟨A, rfl, fun b hb hq => a2 b hb hq (by have := rk_lt hq nb hb; omega), fun _ _ => ⟨rfl, rfl⟩, fun _ _ _ => rfl⟩
  | succ k ih =>
    intro j fuel h1 h2 A a1 a2 a3
    obtain ⟨fuel, rfl⟩ : ∃ q, fuel = q + 1 := ⟨fuel - 1, by omega⟩
    obtain ⟨b, b1, b2, b3⟩ := rk_surj (Q := Q) nb j (by omega)
    obtain ⟨e72, e71⟩ := a1 b b1 b2
    rw [b3] at e72
    obtain ⟨e73, e74⟩ := a3 b b1 b2 (by omega)
    have hj6 : j < 6 := by omega
    have hb6 : b < 6 := by omega
    have v1 := htv b
    have v2 := hle b
    have v3 := hgr b
    have mn : ∀ σ, fJ9_min_7cf53 (nI (le b)) (nI (tv b)) σ = some (nI (min (le b) (tv b)), σ) := fun σ => by
      have := c_min (a := (le b : Int)) (b := (tv b : Int)) ⟨by omega, by omega⟩ ⟨by omega, by omega⟩ σ
      rw [show min (le b : Int) (tv b : Int) = ((min (le b) (tv b) : Nat) : Int) by omega] at this
      exact this
    have mx : ∀ σ, fJ9_max_7cf53 (nI (gr b)) (nI (tv b)) σ = some (nI (max (gr b) (tv b)), σ) := fun σ => by
      have := c_max (a := (gr b : Int)) (b := (tv b : Int)) ⟨by omega, by omega⟩ ⟨by omega, by omega⟩ σ
      rw [show max (gr b : Int) (tv b : Int) = ((max (gr b) (tv b) : Nat) : Int) by omega] at this
      exact this
    rw [fX1_widen_b2]
    simp -implicitDefEqProofs (disch := first | assumption | omega | decide | exact And.intro (by omega) (by omega)) only [cck_0, cr0_0, cr0_1, cr0_2, cr0_3, cg0_4, cp0_4, cg0_5, cp0_5, cck_1, cg1_0, cp1_0, cr1_1, cr1_2, cr1_3, cg1_4, cp1_4, cg1_5, cp1_5, cr1_6, cr1_7, cck_2, cr2_0, cr2_1, cr2_2, cck_3, cr3_0, cr3_1, cg3_2, cp3_2, cg3_3, cp3_3, cg3_4, cp3_4, cg3_5, cp3_5, cg3_6, cp3_6, cg3_7, cp3_7, cg3_8, cp3_8, cck_4, cg4_0, cp4_0, cg4_1, cp4_1, cr4_2, cr4_3, cr4_4, cr4_5, cck_5, cg5_0, cp5_0, cr5_1, cr5_2, cr5_3, cck_6, cg6_0, cp6_0, cg6_1, cp6_1, cck_7, cg7_0, cp7_0, cg7_1, cp7_1, cr7_2, cr7_3, cr7_4, cr7_5, cr7_6, cr7_7, cr7_8, cck_8, cr8_0, cr8_1, cck_9, cr9_0, cr9_1, cr9_2, cr9_3, cg9_4, cp9_4, cck_10, cg10_0, cp10_0, cr10_1, cr10_2, cr10_3, cr10_4, cg10_5, cp10_5, cr10_6, cr10_7, cr10_8, cg10_9, cp10_9, cg10_10, cp10_10, cr10_11, cr10_12, cr10_13, cr10_14, cck_11, cr11_0, cg11_1, cp11_1, cr11_2, cr11_3, cr11_4, cr11_5, cr11_6, cr11_7, cr11_8, cr11_9, cr11_10, cr11_11, cr11_12, cr11_13, cr11_14, ca_30, cs_30, ca_31, cs_31, ca_32, cs_32, ca_33, cs_33, ca_34, cs_34, ca_35, cs_35, ca_36, cs_36, ca_37, cs_37, ca_38, cs_38, ca_39, cs_39, ca_40, cs_40, ca_41, cs_41, ca_42, cs_42, car_20, car_21, car_22, cq11_3, cq11_4, cq3_1, cq0_0, cq0_1, if_true, if_false, Option.bind_some, cb_e, lt_e, nI_1, hs_nar2, nh4, upd_at, vau_at, ca_42_0, cs_42_0, h4]
    rw [if_neg (nI_ge (by omega) (by omega))]
    simp -implicitDefEqProofs (disch := first | assumption | omega | decide | exact And.intro (by omega) (by omega)) only [cck_0, cr0_0, cr0_1, cr0_2, cr0_3, cg0_4, cp0_4, cg0_5, cp0_5, cck_1, cg1_0, cp1_0, cr1_1, cr1_2, cr1_3, cg1_4, cp1_4, cg1_5, cp1_5, cr1_6, cr1_7, cck_2, cr2_0, cr2_1, cr2_2, cck_3, cr3_0, cr3_1, cg3_2, cp3_2, cg3_3, cp3_3, cg3_4, cp3_4, cg3_5, cp3_5, cg3_6, cp3_6, cg3_7, cp3_7, cg3_8, cp3_8, cck_4, cg4_0, cp4_0, cg4_1, cp4_1, cr4_2, cr4_3, cr4_4, cr4_5, cck_5, cg5_0, cp5_0, cr5_1, cr5_2, cr5_3, cck_6, cg6_0, cp6_0, cg6_1, cp6_1, cck_7, cg7_0, cp7_0, cg7_1, cp7_1, cr7_2, cr7_3, cr7_4, cr7_5, cr7_6, cr7_7, cr7_8, cck_8, cr8_0, cr8_1, cck_9, cr9_0, cr9_1, cr9_2, cr9_3, cg9_4, cp9_4, cck_10, cg10_0, cp10_0, cr10_1, cr10_2, cr10_3, cr10_4, cg10_5, cp10_5, cr10_6, cr10_7, cr10_8, cg10_9, cp10_9, cg10_10, cp10_10, cr10_11, cr10_12, cr10_13, cr10_14, cck_11, cr11_0, cg11_1, cp11_1, cr11_2, cr11_3, cr11_4, cr11_5, cr11_6, cr11_7, cr11_8, cr11_9, cr11_10, cr11_11, cr11_12, cr11_13, cr11_14, ca_30, cs_30, ca_31, cs_31, ca_32, cs_32, ca_33, cs_33, ca_34, cs_34, ca_35, cs_35, ca_36, cs_36, ca_37, cs_37, ca_38, cs_38, ca_39, cs_39, ca_40, cs_40, ca_41, cs_41, ca_42, cs_42, car_20, car_21, car_22, cq11_3, cq11_4, cq3_1, cq0_0, cq0_1, if_true, if_false, Option.bind_some, cb_e, lt_e, nI_1, hs_nar2, nh4, upd_at, vau_at, ca_42_0, cs_42_0, e72, e73, e71, mn, vau_ne, e74, mx]
    obtain ⟨A', z1, z2, z3, z4⟩ := ih (j + 1) fuel (by omega) (by omega) (va_up (va_up A 73 (upd (A 73) b (nI (min (le b) (tv b))))) 74 (upd (A 74) b (nI (max (gr b) (tv b))))) (fun c c1 c2 => by
      rw [vau_ne (by decide), vau_ne (by decide), vau_ne (by decide), vau_ne (by decide)]
      exact a1 c c1 c2) (fun c c1 c2 c3 => by
      rw [vau_ne (by decide), vau_at, vau_at]
      by_cases e : c = b
      · rw [e, upd_at, upd_at]
        exact ⟨rfl, rfl⟩
      · rw [upd_ne e, upd_ne e]
        exact a2 c c1 c2 (by
          have : ¬ rk Q c = j := fun z => e (rk_inj c2 b2 (by omega))
          omega)) (fun c c1 c2 c3 => by
      have e : ¬ c = b := fun z => by rw [z] at c3; omega
      rw [vau_ne (by decide), vau_at, vau_at, upd_ne e, upd_ne e]
      exact a3 c c1 c2 (by omega))
    refine ⟨A', z1, z2, fun c hc => ?_, fun c h3 h4 => by rw [z4 c h3 h4, vau_ne h4, vau_ne h3]⟩
    have e : ¬ c = b := fun z => by rw [z, b2] at hc; cases hc
    rw [(z3 c hc).1, (z3 c hc).2, vau_ne (by decide), vau_at, vau_at, upd_ne e, upd_ne e]
    exact ⟨rfl, rfl⟩
theorem c_tries {F A : Nat → Nat → Int32} {q : Nat} (hq : q ≤ 6) (h4 : F 69 4 = nI q) (m : Nat) (xk xf : Int32) : ∀ k x fuel, x + k = q → k < fuel → fX1_search_b15 fuel 69 (nI m) xk xf (nI (m ^ x)) (nI x) (mkC F A B r) = fX1_search_b36 69 (nI m) xk xf (nI (m ^ q)) (mkC F A B r) := by
  intro k
  induction k with
  | zero =>
    intro x fuel h1 h2
    obtain ⟨fuel, rfl⟩ : ∃ q, fuel = q + 1 := ⟨fuel - 1, by omega⟩
    have : x = q := by omega
    subst this
    rw [fX1_search_b15]
    simp -implicitDefEqProofs (disch := first | assumption | omega | decide | exact And.intro (by omega) (by omega)) only [cck_0, cr0_0, cr0_1, cr0_2, cr0_3, cg0_4, cp0_4, cg0_5, cp0_5, cck_1, cg1_0, cp1_0, cr1_1, cr1_2, cr1_3, cg1_4, cp1_4, cg1_5, cp1_5, cr1_6, cr1_7, cck_2, cr2_0, cr2_1, cr2_2, cck_3, cr3_0, cr3_1, cg3_2, cp3_2, cg3_3, cp3_3, cg3_4, cp3_4, cg3_5, cp3_5, cg3_6, cp3_6, cg3_7, cp3_7, cg3_8, cp3_8, cck_4, cg4_0, cp4_0, cg4_1, cp4_1, cr4_2, cr4_3, cr4_4, cr4_5, cck_5, cg5_0, cp5_0, cr5_1, cr5_2, cr5_3, cck_6, cg6_0, cp6_0, cg6_1, cp6_1, cck_7, cg7_0, cp7_0, cg7_1, cp7_1, cr7_2, cr7_3, cr7_4, cr7_5, cr7_6, cr7_7, cr7_8, cck_8, cr8_0, cr8_1, cck_9, cr9_0, cr9_1, cr9_2, cr9_3, cg9_4, cp9_4, cck_10, cg10_0, cp10_0, cr10_1, cr10_2, cr10_3, cr10_4, cg10_5, cp10_5, cr10_6, cr10_7, cr10_8, cg10_9, cp10_9, cg10_10, cp10_10, cr10_11, cr10_12, cr10_13, cr10_14, cck_11, cr11_0, cg11_1, cp11_1, cr11_2, cr11_3, cr11_4, cr11_5, cr11_6, cr11_7, cr11_8, cr11_9, cr11_10, cr11_11, cr11_12, cr11_13, cr11_14, ca_30, cs_30, ca_31, cs_31, ca_32, cs_32, ca_33, cs_33, ca_34, cs_34, ca_35, cs_35, ca_36, cs_36, ca_37, cs_37, ca_38, cs_38, ca_39, cs_39, ca_40, cs_40, ca_41, cs_41, ca_42, cs_42, car_20, car_21, car_22, cq11_3, cq11_4, cq3_1, cq0_0, cq0_1, if_true, if_false, Option.bind_some, cb_e, lt_e, nI_1, hs_nar2, nh4, upd_at, vau_at, ca_42_0, cs_42_0, h4]
    rw [if_pos (nI_le (by omega) (by omega))]
  | succ k ih =>
    intro x fuel h1 h2
    obtain ⟨fuel, rfl⟩ : ∃ q, fuel = q + 1 := ⟨fuel - 1, by omega⟩
    have e := ih (x + 1) fuel (by omega) (by omega)
    have em : nI (m ^ x) * nI m = nI (m ^ (x + 1)) := by rw [pk_mul, ← Nat.pow_succ]
    rw [fX1_search_b15]
    simp -implicitDefEqProofs (disch := first | assumption | omega | decide | exact And.intro (by omega) (by omega)) only [cck_0, cr0_0, cr0_1, cr0_2, cr0_3, cg0_4, cp0_4, cg0_5, cp0_5, cck_1, cg1_0, cp1_0, cr1_1, cr1_2, cr1_3, cg1_4, cp1_4, cg1_5, cp1_5, cr1_6, cr1_7, cck_2, cr2_0, cr2_1, cr2_2, cck_3, cr3_0, cr3_1, cg3_2, cp3_2, cg3_3, cp3_3, cg3_4, cp3_4, cg3_5, cp3_5, cg3_6, cp3_6, cg3_7, cp3_7, cg3_8, cp3_8, cck_4, cg4_0, cp4_0, cg4_1, cp4_1, cr4_2, cr4_3, cr4_4, cr4_5, cck_5, cg5_0, cp5_0, cr5_1, cr5_2, cr5_3, cck_6, cg6_0, cp6_0, cg6_1, cp6_1, cck_7, cg7_0, cp7_0, cg7_1, cp7_1, cr7_2, cr7_3, cr7_4, cr7_5, cr7_6, cr7_7, cr7_8, cck_8, cr8_0, cr8_1, cck_9, cr9_0, cr9_1, cr9_2, cr9_3, cg9_4, cp9_4, cck_10, cg10_0, cp10_0, cr10_1, cr10_2, cr10_3, cr10_4, cg10_5, cp10_5, cr10_6, cr10_7, cr10_8, cg10_9, cp10_9, cg10_10, cp10_10, cr10_11, cr10_12, cr10_13, cr10_14, cck_11, cr11_0, cg11_1, cp11_1, cr11_2, cr11_3, cr11_4, cr11_5, cr11_6, cr11_7, cr11_8, cr11_9, cr11_10, cr11_11, cr11_12, cr11_13, cr11_14, ca_30, cs_30, ca_31, cs_31, ca_32, cs_32, ca_33, cs_33, ca_34, cs_34, ca_35, cs_35, ca_36, cs_36, ca_37, cs_37, ca_38, cs_38, ca_39, cs_39, ca_40, cs_40, ca_41, cs_41, ca_42, cs_42, car_20, car_21, car_22, cq11_3, cq11_4, cq3_1, cq0_0, cq0_1, if_true, if_false, Option.bind_some, cb_e, lt_e, nI_1, hs_nar2, nh4, upd_at, vau_at, ca_42_0, cs_42_0, h4]
    rw [if_neg (nI_ge (by omega) (by omega)), em]
    exact e
end CF3
