/-! ===== which fraction is more; reach ===== -/
theorem jN_eq {a b : Nat} (ha : a < 2 ^ 63) (hb : b < 2 ^ 63) : jN a = jN b ↔ a = b := by
  rw [jJ_eq (jN_in ha) (jN_in hb)]; omega
theorem jN_leq {a b : Nat} (ha : a < 2 ^ 63) (hb : b < 2 ^ 63) : jN a ≤ jN b ↔ a ≤ b := by
  rw [jJ_le (jN_in ha) (jN_in hb)]; omega
theorem fr_lt {a b c d : Nat} (hb : 0 < b) (hd : 0 < d) (h : c / d < a / b) : c * b < a * d := by
  have h1 : c < (c / d + 1) * d := by
    have e1 := Nat.div_add_mod c d
    have e2 := Nat.mod_lt c hd
    rw [Nat.add_mul, Nat.mul_comm (c / d) d]
    omega
  have h2 : a / b * b ≤ a := Nat.div_mul_le_self a b
  have h3 : (c / d + 1) * d * b ≤ a / b * d * b := Nat.mul_le_mul_right _ (Nat.mul_le_mul_right _ h)
  have h4 : c * b < (c / d + 1) * d * b := (Nat.mul_lt_mul_right hb).2 h1
  have h5 : a / b * d * b = a / b * b * d := Nat.mul_right_comm _ _ _
  have h6 : a / b * b * d ≤ a * d := Nat.mul_le_mul_right _ h2
  omega
theorem fr_eq {a b c d : Nat} (h : a / b = c / d) : c * b < a * d ↔ c % d * b < a % b * d := by
  have e1 := Nat.div_add_mod a b
  have e2 := Nat.div_add_mod c d
  rw [h] at e1
  generalize c / d = q at *
  generalize a % b = x at *
  generalize c % d = y at *
  subst e1
  subst e2
  have h5 : d * q * b = b * q * d := by ac_rfl
  rw [Nat.add_mul, Nat.add_mul, h5]
  exact Nat.add_lt_add_iff_left
theorem m_more1 {σ : Sto} {n a b c d : Nat} (ha : a < 2 ^ 63) (hb : b < 2 ^ 63) (hc : c < 2 ^ 63) (hd : d < 2 ^ 63) (hb0 : 0 < b) (hd0 : 0 < d) : fX12_isMore_b14 (n + 1) (jN a) (jN b) (jN c) (jN d) σ = if a / b = c / d then (if a % b = 0 then some (0, σ) else if c % d = 0 then some (1, σ) else fX12_isMore_b14 n (jN d) (jN (c % d)) (jN b) (jN (a % b)) σ) else some (b2 (decide (c / d < a / b)), σ) := by
  have n1 : ¬ jN b = 0 := by rw [jN_0 hb]; omega
  have n2 : ¬ jN d = 0 := by rw [jN_0 hd]; omega
  have m1 : a / b < 2 ^ 63 := Nat.lt_of_le_of_lt (Nat.div_le_self a b) ha
  have m2 : c / d < 2 ^ 63 := Nat.lt_of_le_of_lt (Nat.div_le_self c d) hc
  have m3 : a % b < 2 ^ 63 := Nat.lt_of_le_of_lt (Nat.mod_le a b) ha
  have m4 : c % d < 2 ^ 63 := Nat.lt_of_le_of_lt (Nat.mod_le c d) hc
  rw [fX12_isMore_b14]
  simp only [lt_e, if_neg n1, if_neg n2, jN_div ha hb, jN_div hc hd, jN_rem ha hb, jN_rem hc hd, lg_cmp_eq]
  by_cases c1 : a / b = c / d
  · rw [if_pos ((jN_eq m1 m2).2 c1), if_pos c1]
    by_cases c2 : a % b = 0
    · rw [if_pos ((jN_0 m3).2 c2), if_pos c2]
    · rw [if_neg (fun q => c2 ((jN_0 m3).1 q)), if_neg c2]
      by_cases c3 : c % d = 0
      · rw [if_pos ((jN_0 m4).2 c3), if_pos c3]
      · rw [if_neg (fun q => c3 ((jN_0 m4).1 q)), if_neg c3]
  · rw [if_neg (fun q => c1 ((jN_eq m1 m2).1 q)), if_neg c1]
    unfold fX12_isMore_b36
    simp only [lg_cmp_le]
    by_cases c2 : c / d < a / b
    · rw [if_neg (fun q => by have := (jN_leq m1 m2).1 q; omega), decide_eq_true c2]; rfl
    · rw [if_pos ((jN_leq m1 m2).2 (by omega)), decide_eq_false c2]; rfl
theorem fr_ne {a b c d : Nat} (hb : 0 < b) (hd : 0 < d) (h : ¬ a / b = c / d) : decide (c / d < a / b) = decide (c * b < a * d) := by
  by_cases c2 : c / d < a / b
  · rw [decide_eq_true c2, decide_eq_true (fr_lt hb hd c2)]
  · have := fr_lt hd hb (show a / b < c / d by omega)
    rw [decide_eq_false c2, decide_eq_false (by omega)]
theorem m_more {σ : Sto} : ∀ k a b c d fuel, b < 2 ^ k → 0 < b → 0 < d → a < 2 ^ 63 → b < 2 ^ 63 → c < 2 ^ 63 → d < 2 ^ 63 → 2 * k < fuel → fX12_isMore_b14 fuel (jN a) (jN b) (jN c) (jN d) σ = some (b2 (decide (c * b < a * d)), σ) := by
  intro k
  induction k with
  | zero => intro a b c d fuel h1 h2; omega
  | succ k ih =>
    intro a b c d fuel h1 hb0 hd0 ha hb hc hd h5
    obtain ⟨fuel, rfl⟩ : ∃ q, fuel = q + 1 + 1 := ⟨fuel - 2, by omega⟩
    have l1 := Nat.mod_lt a hb0
    have l2 := Nat.mod_lt c hd0
    rw [m_more1 ha hb hc hd hb0 hd0]
    by_cases c1 : a / b = c / d
    · rw [if_pos c1]
      have e := fr_eq c1
      by_cases c2 : a % b = 0
      · rw [if_pos c2, decide_eq_false (fun q => by have := e.1 q; rw [c2, Nat.zero_mul] at this; omega)]; rfl
      · rw [if_neg c2]
        by_cases c3 : c % d = 0
        · rw [if_pos c3, decide_eq_true (e.2 (by rw [c3, Nat.zero_mul]; exact Nat.mul_pos (by omega) hd0))]; rfl
        · rw [if_neg c3, m_more1 hd (by omega) hb (by omega) (by omega) (by omega)]
          have e' : decide (c * b < a * d) = decide (b * (c % d) < d * (a % b)) := by
            rw [Nat.mul_comm b, Nat.mul_comm d]
            exact decide_eq_decide.2 e
          rw [e']
          have l3 := Nat.mod_lt d (show 0 < c % d by omega)
          have l4 := Nat.mod_lt b (show 0 < a % b by omega)
          by_cases c4 : d / (c % d) = b / (a % b)
          · rw [if_pos c4]
            have e2 := fr_eq c4
            by_cases c5 : d % (c % d) = 0
            · rw [if_pos c5, decide_eq_false (fun q => by have := e2.1 q; rw [c5, Nat.zero_mul] at this; omega)]; rfl
            · rw [if_neg c5]
              by_cases c6 : b % (a % b) = 0
              · rw [if_pos c6, decide_eq_true (e2.2 (by rw [c6, Nat.zero_mul]; exact Nat.mul_pos (by omega) (by omega)))]; rfl
              · have hh := half (show 0 < a % b by omega) l1
                rw [if_neg c6, ih (a % b) (b % (a % b)) (c % d) (d % (c % d)) fuel (by rw [Nat.pow_succ] at h1; omega) (by omega) (by omega) (by omega) (by omega) (by omega) (by omega) (by omega)]
                congr 3
                rw [decide_eq_decide, e2, Nat.mul_comm (c % d), Nat.mul_comm (a % b)]
          · rw [if_neg c4, fr_ne (by omega) (by omega) c4]
    · rw [if_neg c1, fr_ne hb0 hd0 c1]
theorem m_isMore {σ : Sto} {a b c d : Nat} (hb0 : 0 < b) (hd0 : 0 < d) (ha : a < 2 ^ 63) (hb : b < 2 ^ 63) (hc : c < 2 ^ 63) (hd : d < 2 ^ 63) : fX12_isMore (jN a) (jN b) (jN c) (jN d) σ = some (b2 (decide (c * b < a * d)), σ) := by
  unfold fX12_isMore
  exact m_more 63 a b c d FU hb hb0 hd0 ha hb hc hd (by decide)
theorem c_more1 {σ : Sto} {n a b c d i : Nat} {tu : Bool} (hi : i < 200) (ha : a < 2 ^ 63) (hb : b < 2 ^ 63) (hc : c < 2 ^ 63) (hd : d < 2 ^ 63) (hb0 : 0 < b) (hd0 : 0 < d) : fX6_isMoreThan_b29 (n + 1) (jN a) (jN b) (jN c) (jN d) (b2 tu) (nI i) σ = if a / b = c / d then (if a % b = 0 ∨ c % d = 0 then some (b2 (if tu then decide (a % b < c % d) else decide (c % d < a % b)), σ) else fX6_isMoreThan_b29 n (jN b) (jN (a % b)) (jN d) (jN (c % d)) (b2 (!tu)) (nI (i + 1)) σ) else some (b2 (decide (c / d < a / b) != tu), σ) := by
  have n1 : ¬ jN b = 0 := by rw [jN_0 hb]; omega
  have n2 : ¬ jN d = 0 := by rw [jN_0 hd]; omega
  have n3 : ¬ jN b ≤ 0 := by rw [jN_le0 hb]; omega
  have n4 : ¬ jN d ≤ 0 := by rw [jN_le0 hd]; omega
  have n5 : ¬ (200 : Int32) ≤ nI i := nI_ge (b := 200) (by omega) (by decide)
  have m1 : a / b < 2 ^ 63 := Nat.lt_of_le_of_lt (Nat.div_le_self a b) ha
  have m2 : c / d < 2 ^ 63 := Nat.lt_of_le_of_lt (Nat.div_le_self c d) hc
  have m3 : a % b < 2 ^ 63 := Nat.lt_of_le_of_lt (Nat.mod_le a b) ha
  have m4 : c % d < 2 ^ 63 := Nat.lt_of_le_of_lt (Nat.mod_le c d) hc
  have z1 : (b2 tu = 0) ↔ tu = false := by cases tu <;> decide
  rw [fX6_isMoreThan_b29]
  simp only [lt_e, if_neg n1, if_neg n2, if_neg n3, if_neg n4, if_neg n5, jN_div ha hb, jN_div hc hd, jN_rem ha hb, jN_rem hc hd, lg_cmp_eq, lg_cmp_le]
  by_cases c1 : a / b = c / d
  · rw [if_pos ((jN_eq m1 m2).2 c1), if_pos c1]
    have h120 : fX6_isMoreThan_b120 (b2 tu) (jN (a % b)) (jN (c % d)) σ = some (b2 (if tu then decide (a % b < c % d) else decide (c % d < a % b)), σ) := by
      unfold fX6_isMoreThan_b120
      simp only [lg_cmp_le, lg_cmp_ge]
      cases tu with
      | false =>
        rw [if_pos (by decide)]
        by_cases c2 : c % d < a % b
        · rw [if_neg (fun q => by have := (jN_leq m3 m4).1 q; omega)]
          simp [c2, b2]
        · rw [if_pos ((jN_leq m3 m4).2 (by omega))]
          simp [c2, b2]
      | true =>
        rw [if_neg (by decide)]
        by_cases c2 : a % b < c % d
        · rw [if_neg (fun q => by have := (jN_leq m4 m3).1 q; omega)]
          simp [c2, b2]
        · rw [if_pos ((jN_leq m4 m3).2 (by omega))]
          simp [c2, b2]
    by_cases c2 : a % b = 0
    · rw [if_pos ((jN_0 m3).2 c2), if_pos (Or.inl c2)]
      exact h120
    · rw [if_neg (fun q => c2 ((jN_0 m3).1 q))]
      by_cases c3 : c % d = 0
      · rw [if_pos ((jN_0 m4).2 c3), if_pos (Or.inr c3)]
        exact h120
      · have no : ¬ (a % b = 0 ∨ c % d = 0) := fun q => q.elim c2 c3
        rw [if_neg (fun q => c3 ((jN_0 m4).1 q)), if_neg no]
        unfold fX6_isMoreThan_b180
        rw [nI_1]
        cases tu with
        | false => rw [if_pos (show b2 false = 0 by decide)]; rfl
        | true => rw [if_neg (show ¬ b2 true = 0 by decide)]; rfl
  · rw [if_neg (fun q => c1 ((jN_eq m1 m2).1 q)), if_neg c1]
    unfold fX6_isMoreThan_b64 fX6_isMoreThan_b82
    simp only [if_neg n1, if_neg n2, jN_div ha hb, jN_div hc hd, lg_cmp_le]
    by_cases c2 : c / d < a / b
    · rw [if_neg (fun q => by have := (jN_leq m1 m2).1 q; omega), decide_eq_true c2]
      cases tu <;> rfl
    · rw [if_pos ((jN_leq m1 m2).2 (by omega)), decide_eq_false c2]
      cases tu <;> rfl
def cmpT (tu : Bool) (a b c d : Nat) : Bool := if tu then decide (a * d < c * b) else decide (c * b < a * d)
theorem cmpT_q {tu : Bool} {a b c d : Nat} (hb : 0 < b) (hd : 0 < d) (h : ¬ a / b = c / d) : (decide (c / d < a / b) != tu) = cmpT tu a b c d := by
  rw [fr_ne hb hd h]
  unfold cmpT
  cases tu with
  | false => simp
  | true =>
    by_cases c2 : c / d < a / b
    · have := fr_lt hb hd c2
      rw [decide_eq_true this, if_pos rfl, decide_eq_false (by omega)]; rfl
    · have := fr_lt hd hb (show a / b < c / d by omega)
      rw [decide_eq_false (show ¬ c * b < a * d by omega), if_pos rfl, decide_eq_true this]; rfl
theorem cmpT_z {tu : Bool} {a b c d : Nat} (hb : 0 < b) (hd : 0 < d) (h : a / b = c / d) (hz : a % b = 0 ∨ c % d = 0) : (if tu then decide (a % b < c % d) else decide (c % d < a % b)) = cmpT tu a b c d := by
  unfold cmpT
  have e1 := fr_eq h
  have e2 := fr_eq h.symm
  cases tu with
  | false =>
    simp only [Bool.false_eq_true, if_false]
    rw [decide_eq_decide, e1]
    rcases hz with z | z
    · rw [z, Nat.zero_mul]; omega
    · rw [z, Nat.zero_mul]
      exact ⟨fun q => Nat.mul_pos q hd, fun q => Nat.pos_of_mul_pos_right q⟩
  | true =>
    simp only [if_true]
    rw [decide_eq_decide, e2]
    rcases hz with z | z
    · rw [z, Nat.zero_mul]
      exact ⟨fun q => Nat.mul_pos q hb, fun q => Nat.pos_of_mul_pos_right q⟩
    · rw [z, Nat.zero_mul]; omega
theorem cmpT_n {tu : Bool} {a b c d : Nat} (h : a / b = c / d) : cmpT (!tu) b (a % b) d (c % d) = cmpT tu a b c d := by
  unfold cmpT
  have e1 := fr_eq h
  have e2 := fr_eq h.symm
  cases tu with
  | false =>
    simp only [Bool.not_false, if_true, Bool.false_eq_true, if_false]
    rw [decide_eq_decide, e1, Nat.mul_comm b, Nat.mul_comm d]
  | true =>
    simp only [Bool.not_true, if_true, Bool.false_eq_true, if_false]
    rw [decide_eq_decide, e2, Nat.mul_comm b, Nat.mul_comm d]
theorem c_more {σ : Sto} : ∀ k a b c d tu i fuel, b < 2 ^ k → 0 < b → 0 < d → a < 2 ^ 63 → b < 2 ^ 63 → c < 2 ^ 63 → d < 2 ^ 63 → i + 2 * k < 200 → 2 * k < fuel → fX6_isMoreThan_b29 fuel (jN a) (jN b) (jN c) (jN d) (b2 tu) (nI i) σ = some (b2 (cmpT tu a b c d), σ) := by
  intro k
  induction k with
  | zero => intro a b c d tu i fuel h1 h2; omega
  | succ k ih =>
    intro a b c d tu i fuel h1 hb0 hd0 ha hb hc hd h4 h5
    obtain ⟨fuel, rfl⟩ : ∃ q, fuel = q + 1 + 1 := ⟨fuel - 2, by omega⟩
    have l1 := Nat.mod_lt a hb0
    have l2 := Nat.mod_lt c hd0
    rw [c_more1 (by omega) ha hb hc hd hb0 hd0]
    by_cases c1 : a / b = c / d
    · rw [if_pos c1]
      by_cases c2 : a % b = 0 ∨ c % d = 0
      · rw [if_pos c2, cmpT_z hb0 hd0 c1 c2]
      · rw [if_neg c2, c_more1 (by omega) hb (by omega) hd (by omega) (by omega) (by omega), ← cmpT_n c1]
        have l3 := Nat.mod_lt d (show 0 < c % d by omega)
        have l4 := Nat.mod_lt b (show 0 < a % b by omega)
        by_cases c4 : b / (a % b) = d / (c % d)
        · rw [if_pos c4]
          by_cases c5 : b % (a % b) = 0 ∨ d % (c % d) = 0
          · rw [if_pos c5, cmpT_z (by omega) (by omega) c4 c5]
          · have hh := half (show 0 < a % b by omega) l1
            rw [if_neg c5, ih (a % b) (b % (a % b)) (c % d) (d % (c % d)) (!!tu) (i + 1 + 1) fuel (by rw [Nat.pow_succ] at h1; omega) (by omega) (by omega) (by omega) (by omega) (by omega) (by omega) (by omega) (by omega), cmpT_n c4]
        · rw [if_neg c4, cmpT_q (by omega) (by omega) c4]
    · rw [if_neg c1, cmpT_q hb0 hd0 c1]
theorem c_isMore {F A : Nat → Nat → Int32} {B : Nat → Nat → Int64} {r : Nat → Nat} {x y : Nat} (hx : c_kd x = 6) (hy : c_kd y = 6) {a b c d : Nat} (e1 : B x 0 = jN a) (e2 : B x 1 = jN b) (e3 : B y 0 = jN c) (e4 : B y 1 = jN d) (hb0 : 0 < b) (hd0 : 0 < d) (ha : a < 2 ^ 63) (hb : b < 2 ^ 63) (hc : c < 2 ^ 63) (hd : d < 2 ^ 63) : fX6_isMoreThan x y (mkC F A B r) = some (b2 (decide (c * b < a * d)), mkC F A B r) := by
  unfold fX6_isMoreThan
  simp -implicitDefEqProofs (disch := first | assumption | omega | decide | exact And.intro (by omega) (by omega)) only [cck_0, cr0_0, cr0_1, cr0_2, cr0_3, cg0_4, cp0_4, cg0_5, cp0_5, cck_1, cg1_0, cp1_0, cr1_1, cr1_2, cr1_3, cg1_4, cp1_4, cg1_5, cp1_5, cr1_6, cr1_7, cck_2, cr2_0, cr2_1, cr2_2, cck_3, cr3_0, cr3_1, cg3_2, cp3_2, cg3_3, cp3_3, cg3_4, cp3_4, cg3_5, cp3_5, cg3_6, cp3_6, cg3_7, cp3_7, cg3_8, cp3_8, cck_4, cg4_0, cp4_0, cg4_1, cp4_1, cr4_2, cr4_3, cr4_4, cr4_5, cck_5, cg5_0, cp5_0, cr5_1, cr5_2, cr5_3, cck_6, cg6_0, cp6_0, cg6_1, cp6_1, cck_7, cg7_0, cp7_0, cg7_1, cp7_1, cr7_2, cr7_3, cr7_4, cr7_5, cr7_6, cr7_7, cr7_8, cck_8, cr8_0, cr8_1, cck_9, cr9_0, cr9_1, cr9_2, cr9_3, cg9_4, cp9_4, cck_10, cg10_0, cp10_0, cr10_1, cr10_2, cr10_3, cr10_4, cg10_5, cp10_5, cr10_6, cr10_7, cr10_8, cg10_9, cp10_9, cg10_10, cp10_10, cr10_11, cr10_12, cr10_13, cr10_14, cck_11, cr11_0, cg11_1, cp11_1, cr11_2, cr11_3, cr11_4, cr11_5, cr11_6, cr11_7, cr11_8, cr11_9, cr11_10, cr11_11, cr11_12, cr11_13, cr11_14, ca_30, cs_30, ca_31, cs_31, ca_32, cs_32, ca_33, cs_33, ca_34, cs_34, ca_35, cs_35, ca_36, cs_36, ca_37, cs_37, ca_38, cs_38, ca_39, cs_39, ca_40, cs_40, ca_41, cs_41, ca_42, cs_42, car_20, car_21, car_22, cq11_3, cq11_4, cq3_1, cq0_0, cq0_1, if_true, if_false, Option.bind_some, cb_e, lt_e, nI_1, hs_nar2, nh4, upd_at, vau_at, ca_42_0, cs_42_0, e1, e2, e3, e4]
  exact c_more 63 a b c d false 0 FU hb hb0 hd0 ha hb hc hd (by decide) (by decide)
/-! orders as rows of books, from the topmost down -/
def wn (T : TD) (b : Nat) : Nat := (tWt T b).toNat
def gn (T : TD) (b : Nat) : Nat := (tLg T b).toNat
theorem wg_n {T : TD} (hT : GoodT T) {b : Nat} (hb : b < tNb T) : (1 ≤ wn T b ∧ wn T b ≤ 20) ∧ (1 ≤ gn T b ∧ gn T b ≤ 99) ∧ iI (tWt T b) = nI (wn T b) ∧ iI (tLg T b) = nI (gn T b) := by
  have h := hT.2.1 b hb
  unfold wn gn
  refine ⟨by omega, by omega, ?_, ?_⟩
  · rw [iI_nI]; congr 1; omega
  · rw [iI_nI]; congr 1; omega
def reaL (T : TD) : List Nat → Nat → Nat × Nat → Nat × Nat
  | [], _, f => f
  | d :: L, W, f => reaL T L (W + wn T d) (fA f.1 f.2 (wn T d * gn T d) (2 * (W + wn T d)))
def FrOK (i : Nat) (f : Nat × Nat) : Prop := 0 < f.2 ∧ f.2 ≤ 240 ^ i ∧ f.1 ≤ 50 * i * f.2
theorem p240 {i : Nat} (hi : i ≤ 6) : 240 ^ i ≤ 191102976000000 := Nat.le_trans (Nat.pow_le_pow_right (by decide) hi) (by decide)
theorem FrOK.lt {i : Nat} {f : Nat × Nat} (h : FrOK i f) (hi : i ≤ 6) : f.1 < 2 ^ 63 ∧ f.2 < 2 ^ 63 := by
  obtain ⟨h1, h2, h3⟩ := h
  have := p240 hi
  have h4 : 50 * i * f.2 ≤ 300 * 191102976000000 := Nat.mul_le_mul (by omega) (by omega)
  omega
theorem fr_step {i a b u l : Nat} (hf : FrOK i (a, b)) (hi : i < 6) (hl0 : 0 < l) (hl : l ≤ 240) (hu : u ≤ 50 * l) : fN a b u l < 2 ^ 63 ∧ fD b l < 2 ^ 63 ∧ FrOK (i + 1) (fA a b u l) := by
  obtain ⟨h1, h2, h3⟩ := hf
  dsimp only at h1 h2 h3
  have hg := gcd_lt (x := b) hl0
  have hD0 := fD_pos h1 hl0
  have d1 : fD b l ≤ 240 ^ (i + 1) := by
    unfold fD
    rw [Nat.pow_succ]
    exact Nat.mul_le_mul h2 (Nat.le_trans (Nat.div_le_self _ _) hl)
  have n1 : fN a b u l ≤ 50 * (i + 1) * fD b l := by
    have q1 : a * (l / Nat.gcd b l) ≤ 50 * i * fD b l := by
      unfold fD
      rw [← Nat.mul_assoc]
      exact Nat.mul_le_mul_right _ h3
    have q2 : u * (b / Nat.gcd b l) ≤ 50 * fD b l := by
      rw [← fD_alt, Nat.mul_comm (b / Nat.gcd b l) l, ← Nat.mul_assoc]
      exact Nat.mul_le_mul_right _ hu
    have q3 : 50 * (i + 1) * fD b l = 50 * i * fD b l + 50 * fD b l := by rw [Nat.mul_add, Nat.mul_one, Nat.add_mul]
    unfold fN
    omega
  have p := p240 (i := i + 1) (by omega)
  have n2 : 50 * (i + 1) * fD b l ≤ 300 * 191102976000000 := Nat.mul_le_mul (by omega) (by omega)
  have hG := gcd_lt (x := fN a b u l) hD0
  refine ⟨by omega, by omega, Nat.div_pos hG.2 hG.1, Nat.le_trans (Nat.div_le_self _ _) d1, ?_⟩
  show fN a b u l / Nat.gcd (fN a b u l) (fD b l) ≤ 50 * (i + 1) * (fD b l / Nat.gcd (fN a b u l) (fD b l))
  rw [← Nat.mul_div_assoc _ (Nat.gcd_dvd_right (fN a b u l) (fD b l))]
  exact Nat.div_le_div_right n1
theorem FrOK.zero : FrOK 0 (0, 1) := ⟨by decide, by decide, by decide⟩
/-- the books of a number, from its last digit on -/
def digs (nb : Nat) : Nat → Nat → Nat → Option (List Nat)
  | 0, r, _ => if r = 0 then some [] else none
  | k + 1, r, s => if r = 0 then some [] else if 1 ≤ r % 10 ∧ r % 10 ≤ nb ∧ ¬ s / 2 ^ (r % 10 - 1) % 2 = 1 then (digs nb k (r / 10) (s + 2 ^ (r % 10 - 1))).map (fun L => (r % 10 - 1) :: L) else none
theorem bit_set : ∀ s, s < 64 → ∀ i, i < 6 → ¬ s / 2 ^ i % 2 = 1 → s + 2 ^ i < 64 ∧ (nI s ||| ((1 : Int32) <<< (nI i &&& 31))) = nI (s + 2 ^ i) := by decide +kernel
theorem n_rem10 {r : Nat} (h : r < 2 ^ 31) : hs_rem (nI r) 10 = nI (r % 10) := pk_rem (d := 10) h (by decide) (by decide)
theorem n_div10 {r : Nat} (h : r < 2 ^ 31) : nI r / 10 = nI (r / 10) := pk_div (d := 10) h (by decide) (by decide)
theorem c_measure_go {F A : Nat → Nat → Int32} {rc : Nat → Nat} {t : Nat} {T : TD} (hT : GoodT T) (hx : CText F A t T) (ht : t = 7 ∨ t = 22) {N : Nat} (hN0 : 0 < N) (hN : N < 2 ^ 31) : ∀ k i fuel r s W f, i + k = 6 → k < fuel → r < 2 ^ 31 → s < 64 → W ≤ 20 * i → FrOK i f → ∀ (B : Nat → Nat → Int64), B 191 0 = jN f.1 → B 191 1 = jN f.2 → ∃ B', fX2_measure_b18 fuel t (nI N) 191 (nI s) (nI W) (nI r) (nI i) (mkC F A B rc) = some (b2 (digs (tNb T) k r s).isSome, mkC F A B' rc) ∧ (∀ L, digs (tNb T) k r s = some L → B' 191 0 = jN (reaL T L W f).1 ∧ B' 191 1 = jN (reaL T L W f).2) ∧ ∀ d, ¬ d = 191 → B' d = B d := by
  obtain ⟨k0, k1, k2, k3, k4, k5, k6, k7, k8, k9, k10, k11⟩ := TA_of ht
  have hnb := hT.1
  have h126 : ∀ r σ, r < 2 ^ 31 → fX2_measure_b126 (nI N) (nI r) σ = some (b2 (decide (r = 0)), σ) := by
    intro r σ hr
    unfold fX2_measure_b126
    rw [if_neg (nI_nle hN0 hN)]
    by_cases c : r = 0
    · subst c; rw [if_pos (by decide)]; rfl
    · rw [if_neg (nI_ne0 (by omega) hr), decide_eq_false c]; rfl
  intro k
  induction k with
  | zero =>
    intro i fuel r s W f h1 h2 hr hs hW hf B e1 e2
    obtain ⟨fuel, rfl⟩ : ∃ q, fuel = q + 1 := ⟨fuel - 1, by omega⟩
    have : i = 6 := by omega
    subst this
    rw [fX2_measure_b18, if_pos (by decide), h126 r _ hr]
    refine ⟨B, ?_, fun L hL => ?_, fun _ _ => rfl⟩
    · rw [digs]
      by_cases c : r = 0
      · rw [if_pos c, decide_eq_true c]; rfl
      · rw [if_neg c, decide_eq_false c]; rfl
    · rw [digs] at hL
      by_cases c : r = 0
      · rw [if_pos c] at hL
        cases hL
        exact ⟨e1, e2⟩
      · rw [if_neg c] at hL; cases hL
  | succ k ih =>
    intro i fuel r s W f h1 h2 hr hs hW hf B e1 e2
    obtain ⟨fuel, rfl⟩ : ∃ q, fuel = q + 1 := ⟨fuel - 1, by omega⟩
    rw [fX2_measure_b18, if_neg (show ¬ (6 : Int32) ≤ nI i from nI_ge (b := 6) (by omega) (by decide))]
    by_cases c : r = 0
    · subst c
      rw [if_pos (by decide), h126 0 _ hr]
      refine ⟨B, by rw [digs, if_pos rfl]; rfl, fun L hL => ?_, fun _ _ => rfl⟩
      rw [digs, if_pos rfl] at hL
      cases hL
      exact ⟨e1, e2⟩
    · rw [if_neg (nI_nle (by omega) hr), lt_e, lt_e, n_rem10 hr, n_div10 hr, digs, if_neg c]
      have l10 : r % 10 < 10 := Nat.mod_lt _ (by decide)
      by_cases c1 : r % 10 = 0
      · rw [c1, if_pos (by decide), if_neg (fun q => by omega)]
        exact ⟨B, rfl, fun L hL => (by cases hL), fun _ _ => rfl⟩
      · have e3 : nI (r % 10) - 1 = nI (r % 10 - 1) := pk_sub (b := 1) (by omega)
        rw [e3, if_neg (nI_pos (by omega))]
        have cnb := hx.1
        simp -implicitDefEqProofs (disch := first | assumption | omega | decide | exact And.intro (by omega) (by omega)) only [cck_0, cr0_0, cr0_1, cr0_2, cr0_3, cg0_4, cp0_4, cg0_5, cp0_5, cck_1, cg1_0, cp1_0, cr1_1, cr1_2, cr1_3, cg1_4, cp1_4, cg1_5, cp1_5, cr1_6, cr1_7, cck_2, cr2_0, cr2_1, cr2_2, cck_3, cr3_0, cr3_1, cg3_2, cp3_2, cg3_3, cp3_3, cg3_4, cp3_4, cg3_5, cp3_5, cg3_6, cp3_6, cg3_7, cp3_7, cg3_8, cp3_8, cck_4, cg4_0, cp4_0, cg4_1, cp4_1, cr4_2, cr4_3, cr4_4, cr4_5, cck_5, cg5_0, cp5_0, cr5_1, cr5_2, cr5_3, cck_6, cg6_0, cp6_0, cg6_1, cp6_1, cck_7, cg7_0, cp7_0, cg7_1, cp7_1, cr7_2, cr7_3, cr7_4, cr7_5, cr7_6, cr7_7, cr7_8, cck_8, cr8_0, cr8_1, cck_9, cr9_0, cr9_1, cr9_2, cr9_3, cg9_4, cp9_4, cck_10, cg10_0, cp10_0, cr10_1, cr10_2, cr10_3, cr10_4, cg10_5, cp10_5, cr10_6, cr10_7, cr10_8, cg10_9, cp10_9, cg10_10, cp10_10, cr10_11, cr10_12, cr10_13, cr10_14, cck_11, cr11_0, cg11_1, cp11_1, cr11_2, cr11_3, cr11_4, cr11_5, cr11_6, cr11_7, cr11_8, cr11_9, cr11_10, cr11_11, cr11_12, cr11_13, cr11_14, ca_30, cs_30, ca_31, cs_31, ca_32, cs_32, ca_33, cs_33, ca_34, cs_34, ca_35, cs_35, ca_36, cs_36, ca_37, cs_37, ca_38, cs_38, ca_39, cs_39, ca_40, cs_40, ca_41, cs_41, ca_42, cs_42, car_20, car_21, car_22, cq11_3, cq11_4, cq3_1, cq0_0, cq0_1, if_true, if_false, Option.bind_some, cb_e, lt_e, nI_1, hs_nar2, nh4, upd_at, vau_at, ca_42_0, cs_42_0, cnb]
        by_cases c2 : r % 10 ≤ tNb T
        · rw [if_neg (nI_ge (by omega) (by omega))]
          have hd6 : r % 10 - 1 < 6 := by omega
          have hdn : r % 10 - 1 < tNb T := by omega
          have hb := bit_c s hs (r % 10 - 1) hd6
          by_cases c3 : s / 2 ^ (r % 10 - 1) % 2 = 1
          · rw [if_neg (fun q => hb.1 q c3), if_neg (fun q => q.2.2 c3)]
            exact ⟨B, rfl, fun L hL => (by cases hL), fun _ _ => rfl⟩
          · obtain ⟨s1, s2⟩ := bit_set s hs _ hd6 c3
            obtain ⟨w1, w2, w3, w4⟩ := wg_n hT hdn
            have x1 := hx.2.1 _ hdn
            rw [w3, w4] at x1
            have hmul : nI (wn T (r % 10 - 1)) * nI (gn T (r % 10 - 1)) = nI (wn T (r % 10 - 1) * gn T (r % 10 - 1)) := pk_mul _ _
            have hb1 : wn T (r % 10 - 1) * gn T (r % 10 - 1) ≤ 20 * 99 := Nat.mul_le_mul w1.2 w2.2
            have hu : wn T (r % 10 - 1) * gn T (r % 10 - 1) ≤ 50 * (2 * (W + wn T (r % 10 - 1))) := by
              have q1 : wn T (r % 10 - 1) * gn T (r % 10 - 1) ≤ wn T (r % 10 - 1) * 99 := Nat.mul_le_mul_left _ w2.2
              omega
            obtain ⟨g1, g2, g3⟩ := fr_step (i := i) (a := f.1) (b := f.2) (u := wn T (r % 10 - 1) * gn T (r % 10 - 1)) (l := 2 * (W + wn T (r % 10 - 1))) hf (by omega) (by omega) (by omega) hu
            obtain ⟨B1, p1, p2, p3, p4⟩ := c_add (F := F) (A := A) (B := B) (r := rc) (c := 191) rfl e1 e2 hf.1 (by omega) (hf.lt (by omega)).2 (by omega) g1 g2
            obtain ⟨B2, q1, q2, q3⟩ := ih (i + 1) fuel (r / 10) (s + 2 ^ (r % 10 - 1)) (W + wn T (r % 10 - 1)) _ (by omega) (by omega) (by omega) s1 (by omega) g3 B1 p2 p3
            rw [if_pos (hb.2 c3), if_pos ⟨by omega, c2, c3⟩]
            refine ⟨B2, ?_, fun L hL => ?_, fun d hd => by rw [q3 d hd, p4 d hd]⟩
            · simp -implicitDefEqProofs (disch := first | assumption | omega | decide | exact And.intro (by omega) (by omega)) only [cck_0, cr0_0, cr0_1, cr0_2, cr0_3, cg0_4, cp0_4, cg0_5, cp0_5, cck_1, cg1_0, cp1_0, cr1_1, cr1_2, cr1_3, cg1_4, cp1_4, cg1_5, cp1_5, cr1_6, cr1_7, cck_2, cr2_0, cr2_1, cr2_2, cck_3, cr3_0, cr3_1, cg3_2, cp3_2, cg3_3, cp3_3, cg3_4, cp3_4, cg3_5, cp3_5, cg3_6, cp3_6, cg3_7, cp3_7, cg3_8, cp3_8, cck_4, cg4_0, cp4_0, cg4_1, cp4_1, cr4_2, cr4_3, cr4_4, cr4_5, cck_5, cg5_0, cp5_0, cr5_1, cr5_2, cr5_3, cck_6, cg6_0, cp6_0, cg6_1, cp6_1, cck_7, cg7_0, cp7_0, cg7_1, cp7_1, cr7_2, cr7_3, cr7_4, cr7_5, cr7_6, cr7_7, cr7_8, cck_8, cr8_0, cr8_1, cck_9, cr9_0, cr9_1, cr9_2, cr9_3, cg9_4, cp9_4, cck_10, cg10_0, cp10_0, cr10_1, cr10_2, cr10_3, cr10_4, cg10_5, cp10_5, cr10_6, cr10_7, cr10_8, cg10_9, cp10_9, cg10_10, cp10_10, cr10_11, cr10_12, cr10_13, cr10_14, cck_11, cr11_0, cg11_1, cp11_1, cr11_2, cr11_3, cr11_4, cr11_5, cr11_6, cr11_7, cr11_8, cr11_9, cr11_10, cr11_11, cr11_12, cr11_13, cr11_14, ca_30, cs_30, ca_31, cs_31, ca_32, cs_32, ca_33, cs_33, ca_34, cs_34, ca_35, cs_35, ca_36, cs_36, ca_37, cs_37, ca_38, cs_38, ca_39, cs_39, ca_40, cs_40, ca_41, cs_41, ca_42, cs_42, car_20, car_21, car_22, cq11_3, cq11_4, cq3_1, cq0_0, cq0_1, if_true, if_false, Option.bind_some, cb_e, lt_e, nI_1, hs_nar2, nh4, upd_at, vau_at, ca_42_0, cs_42_0, s2, x1.1, x1.2, nI_add, hmul, nI_jJ, two_jN, p1]
              rw [q1, Option.isSome_map]
            · cases hq : digs (tNb T) k (r / 10) (s + 2 ^ (r % 10 - 1)) with
              | none => rw [hq] at hL; cases hL
              | some L2 =>
                rw [hq] at hL
                cases hL
                exact q2 L2 hq
        · rw [if_pos (nI_le (by omega) (by omega)), if_neg (fun q => c2 q.2.1)]
          exact ⟨B, rfl, fun L hL => (by cases hL), fun _ _ => rfl⟩
