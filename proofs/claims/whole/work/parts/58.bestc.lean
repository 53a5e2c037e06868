/-! ===== the class finds the best order ===== -/
theorem kd_best : ∀ j, j < 64 → c_kd (127 + j) = 6 := by decide +kernel
theorem c_copyR {F A : Nat → Nat → Int32} {B : Nat → Nat → Int64} {r : Nat → Nat} {x y : Nat} (hx : c_kd x = 6) (hy : c_kd y = 6) (hxy : ¬ y = x) : ∃ B', fX6_copyFrom x y (mkC F A B r) = some ((), mkC F A B' r) ∧ B' x 0 = B y 0 ∧ B' x 1 = B y 1 ∧ ∀ d, ¬ d = x → B' d = B d := by
  unfold fX6_copyFrom
  simp -implicitDefEqProofs (disch := first | assumption | omega | decide | exact And.intro (by omega) (by omega)) only [cck_0, cr0_0, cr0_1, cr0_2, cr0_3, cg0_4, cp0_4, cg0_5, cp0_5, cck_1, cg1_0, cp1_0, cr1_1, cr1_2, cr1_3, cg1_4, cp1_4, cg1_5, cp1_5, cr1_6, cr1_7, cck_2, cr2_0, cr2_1, cr2_2, cck_3, cr3_0, cr3_1, cg3_2, cp3_2, cg3_3, cp3_3, cg3_4, cp3_4, cg3_5, cp3_5, cg3_6, cp3_6, cg3_7, cp3_7, cg3_8, cp3_8, cck_4, cg4_0, cp4_0, cg4_1, cp4_1, cr4_2, cr4_3, cr4_4, cr4_5, cck_5, cg5_0, cp5_0, cr5_1, cr5_2, cr5_3, cck_6, cg6_0, cp6_0, cg6_1, cp6_1, cck_7, cg7_0, cp7_0, cg7_1, cp7_1, cr7_2, cr7_3, cr7_4, cr7_5, cr7_6, cr7_7, cr7_8, cck_8, cr8_0, cr8_1, cck_9, cr9_0, cr9_1, cr9_2, cr9_3, cg9_4, cp9_4, cck_10, cg10_0, cp10_0, cr10_1, cr10_2, cr10_3, cr10_4, cg10_5, cp10_5, cr10_6, cr10_7, cr10_8, cg10_9, cp10_9, cg10_10, cp10_10, cr10_11, cr10_12, cr10_13, cr10_14, cck_11, cr11_0, cg11_1, cp11_1, cr11_2, cr11_3, cr11_4, cr11_5, cr11_6, cr11_7, cr11_8, cr11_9, cr11_10, cr11_11, cr11_12, cr11_13, cr11_14, ca_30, cs_30, ca_31, cs_31, ca_32, cs_32, ca_33, cs_33, ca_34, cs_34, ca_35, cs_35, ca_36, cs_36, ca_37, cs_37, ca_38, cs_38, ca_39, cs_39, ca_40, cs_40, ca_41, cs_41, ca_42, cs_42, car_20, car_21, car_22, cq11_3, cq11_4, cq3_1, cq0_0, cq0_1, if_true, if_false, Option.bind_some, cb_e, lt_e, nI_1, hs_nar2, nh4, upd_at, vau_at, ca_42_0, cs_42_0, vau_ne hxy]
  exact ⟨_, rfl, by rw [vau_at, updL_ne (by decide), updL_at], by rw [vau_at, updL_at], fun d hd => by rw [vau_ne hd, vau_ne hd]⟩
theorem rV_num {T : TD} (hT : GoodT T) {x : Nat} {O : List Nat} (hx : x < tNb T) (h : 0 < (rV T O).2) : 0 < (rV T (x :: O)).1 := by
  obtain ⟨w1, w2, _, _⟩ := wg_n hT hx
  rw [rV_cons]
  have hl : 0 < 2 * (swt T O + wn T x) := by omega
  have hg := gcd_lt (x := (rV T O).2) hl
  have hb : 0 < (rV T O).2 / Nat.gcd (rV T O).2 (2 * (swt T O + wn T x)) := Nat.div_pos (Nat.le_of_dvd h (Nat.gcd_dvd_left _ _)) hg.1
  have hN : 0 < fN (rV T O).1 (rV T O).2 (wn T x * gn T x) (2 * (swt T O + wn T x)) := by
    unfold fN
    have := Nat.mul_pos (Nat.mul_pos (show 0 < wn T x by omega) (show 0 < gn T x by omega)) hb
    omega
  exact Nat.div_pos (Nat.le_of_dvd hN (Nat.gcd_dvd_left _ _)) (Nat.gcd_pos_of_pos_left _ hN)
def Tab (T : TD) (B : Nat → Nat → Int64) (q : Nat) : Prop := B (127 + q) 0 = jN (rV T (dpo T (pc q) q)).1 ∧ B (127 + q) 1 = jN (rV T (dpo T (pc q) q)).2
def TabL (T : TD) (A : Nat → Nat → Int32) (q : Nat) : Prop := 0 < q → A 125 q = nI ((dpo T (pc q) q).headD 0)
/-- the class's best up to now of the set s -/
def Inv (T : TD) (A : Nat → Nat → Int32) (B : Nat → Nat → Int64) (s : Nat) : Option (List Nat) → Prop
  | none => B (127 + s) 0 = jN 0 ∧ B (127 + s) 1 = jN 1
  | some O => (B (127 + s) 0 = jN (rV T O).1 ∧ B (127 + s) 1 = jN (rV T O).2) ∧ A 125 s = nI (O.headD 0)
section CH
variable {F : Nat → Nat → Int32} {rc : Nat → Nat} {t : Nat} {T : TD} {s n : Nat}
theorem c_wsum (hT : GoodT T) (ht : t = 7 ∨ t = 22) (hs : s < 64) {A : Nat → Nat → Int32} {B : Nat → Nat → Int64} (hx : CText F A t T) : ∀ k x fuel, x + k = tNb T → k < fuel → fX2_chooseLowest_b5 fuel 123 t (nI s) (nI (sWk T s x)) (nI x) (mkC F A B rc) = fX2_chooseLowest_b43 123 t (nI s) (nI (sWk T s (tNb T))) (mkC F A B rc) := by
  obtain ⟨k0, k1, k2, k3, k4, k5, k6, k7, k8, k9, k10, k11⟩ := TA_of ht
  have hnb := hT.1
  have h0 := hx.1
  intro k
  induction k with
  | zero =>
    intro x fuel h1 h2
    obtain ⟨fuel, rfl⟩ : ∃ q, fuel = q + 1 := ⟨fuel - 1, by omega⟩
    have : x = tNb T := by omega
    subst this
    rw [fX2_chooseLowest_b5]
    simp -implicitDefEqProofs (disch := first | assumption | omega | decide | exact And.intro (by omega) (by omega)) only [cck_0, cr0_0, cr0_1, cr0_2, cr0_3, cg0_4, cp0_4, cg0_5, cp0_5, cck_1, cg1_0, cp1_0, cr1_1, cr1_2, cr1_3, cg1_4, cp1_4, cg1_5, cp1_5, cr1_6, cr1_7, cck_2, cr2_0, cr2_1, cr2_2, cck_3, cr3_0, cr3_1, cg3_2, cp3_2, cg3_3, cp3_3, cg3_4, cp3_4, cg3_5, cp3_5, cg3_6, cp3_6, cg3_7, cp3_7, cg3_8, cp3_8, cck_4, cg4_0, cp4_0, cg4_1, cp4_1, cr4_2, cr4_3, cr4_4, cr4_5, cck_5, cg5_0, cp5_0, cr5_1, cr5_2, cr5_3, cck_6, cg6_0, cp6_0, cg6_1, cp6_1, cck_7, cg7_0, cp7_0, cg7_1, cp7_1, cr7_2, cr7_3, cr7_4, cr7_5, cr7_6, cr7_7, cr7_8, cck_8, cr8_0, cr8_1, cck_9, cr9_0, cr9_1, cr9_2, cr9_3, cg9_4, cp9_4, cck_10, cg10_0, cp10_0, cr10_1, cr10_2, cr10_3, cr10_4, cg10_5, cp10_5, cr10_6, cr10_7, cr10_8, cg10_9, cp10_9, cg10_10, cp10_10, cr10_11, cr10_12, cr10_13, cr10_14, cck_11, cr11_0, cg11_1, cp11_1, cr11_2, cr11_3, cr11_4, cr11_5, cr11_6, cr11_7, cr11_8, cr11_9, cr11_10, cr11_11, cr11_12, cr11_13, cr11_14, ca_30, cs_30, ca_31, cs_31, ca_32, cs_32, ca_33, cs_33, ca_34, cs_34, ca_35, cs_35, ca_36, cs_36, ca_37, cs_37, ca_38, cs_38, ca_39, cs_39, ca_40, cs_40, ca_41, cs_41, ca_42, cs_42, car_20, car_21, car_22, cq11_3, cq11_4, cq3_1, cq0_0, cq0_1, if_true, if_false, Option.bind_some, cb_e, lt_e, nI_1, hs_nar2, nh4, upd_at, vau_at, ca_42_0, cs_42_0, h0]
    rw [if_pos (nI_le (by omega) (by omega))]
  | succ k ih =>
    intro x fuel h1 h2
    obtain ⟨fuel, rfl⟩ : ∃ q, fuel = q + 1 := ⟨fuel - 1, by omega⟩
    have hb := bit_c s hs x (by omega)
    have e := ih (x + 1) fuel (by omega) (by omega)
    rw [sWk] at e
    rw [fX2_chooseLowest_b5]
    simp -implicitDefEqProofs (disch := first | assumption | omega | decide | exact And.intro (by omega) (by omega)) only [cck_0, cr0_0, cr0_1, cr0_2, cr0_3, cg0_4, cp0_4, cg0_5, cp0_5, cck_1, cg1_0, cp1_0, cr1_1, cr1_2, cr1_3, cg1_4, cp1_4, cg1_5, cp1_5, cr1_6, cr1_7, cck_2, cr2_0, cr2_1, cr2_2, cck_3, cr3_0, cr3_1, cg3_2, cp3_2, cg3_3, cp3_3, cg3_4, cp3_4, cg3_5, cp3_5, cg3_6, cp3_6, cg3_7, cp3_7, cg3_8, cp3_8, cck_4, cg4_0, cp4_0, cg4_1, cp4_1, cr4_2, cr4_3, cr4_4, cr4_5, cck_5, cg5_0, cp5_0, cr5_1, cr5_2, cr5_3, cck_6, cg6_0, cp6_0, cg6_1, cp6_1, cck_7, cg7_0, cp7_0, cg7_1, cp7_1, cr7_2, cr7_3, cr7_4, cr7_5, cr7_6, cr7_7, cr7_8, cck_8, cr8_0, cr8_1, cck_9, cr9_0, cr9_1, cr9_2, cr9_3, cg9_4, cp9_4, cck_10, cg10_0, cp10_0, cr10_1, cr10_2, cr10_3, cr10_4, cg10_5, cp10_5, cr10_6, cr10_7, cr10_8, cg10_9, cp10_9, cg10_10, cp10_10, cr10_11, cr10_12, cr10_13, cr10_14, cck_11, cr11_0, cg11_1, cp11_1, cr11_2, cr11_3, cr11_4, cr11_5, cr11_6, cr11_7, cr11_8, cr11_9, cr11_10, cr11_11, cr11_12, cr11_13, cr11_14, ca_30, cs_30, ca_31, cs_31, ca_32, cs_32, ca_33, cs_33, ca_34, cs_34, ca_35, cs_35, ca_36, cs_36, ca_37, cs_37, ca_38, cs_38, ca_39, cs_39, ca_40, cs_40, ca_41, cs_41, ca_42, cs_42, car_20, car_21, car_22, cq11_3, cq11_4, cq3_1, cq0_0, cq0_1, if_true, if_false, Option.bind_some, cb_e, lt_e, nI_1, hs_nar2, nh4, upd_at, vau_at, ca_42_0, cs_42_0, h0]
    rw [if_neg (nI_ge (by omega) (by omega))]
    unfold fX2_chooseLowest_b35
    by_cases c : s / 2 ^ x % 2 = 1
    · rw [if_pos c] at e
      have x1 := (hx.2.1 x (by omega)).2
      rw [(wg_n hT (show x < tNb T by omega)).2.2.1] at x1
      have hx6 : x < 6 := by omega
      rw [if_neg (fun q => hb.1 q c)]
      simp -implicitDefEqProofs (disch := first | assumption | omega | decide | exact And.intro (by omega) (by omega)) only [cck_0, cr0_0, cr0_1, cr0_2, cr0_3, cg0_4, cp0_4, cg0_5, cp0_5, cck_1, cg1_0, cp1_0, cr1_1, cr1_2, cr1_3, cg1_4, cp1_4, cg1_5, cp1_5, cr1_6, cr1_7, cck_2, cr2_0, cr2_1, cr2_2, cck_3, cr3_0, cr3_1, cg3_2, cp3_2, cg3_3, cp3_3, cg3_4, cp3_4, cg3_5, cp3_5, cg3_6, cp3_6, cg3_7, cp3_7, cg3_8, cp3_8, cck_4, cg4_0, cp4_0, cg4_1, cp4_1, cr4_2, cr4_3, cr4_4, cr4_5, cck_5, cg5_0, cp5_0, cr5_1, cr5_2, cr5_3, cck_6, cg6_0, cp6_0, cg6_1, cp6_1, cck_7, cg7_0, cp7_0, cg7_1, cp7_1, cr7_2, cr7_3, cr7_4, cr7_5, cr7_6, cr7_7, cr7_8, cck_8, cr8_0, cr8_1, cck_9, cr9_0, cr9_1, cr9_2, cr9_3, cg9_4, cp9_4, cck_10, cg10_0, cp10_0, cr10_1, cr10_2, cr10_3, cr10_4, cg10_5, cp10_5, cr10_6, cr10_7, cr10_8, cg10_9, cp10_9, cg10_10, cp10_10, cr10_11, cr10_12, cr10_13, cr10_14, cck_11, cr11_0, cg11_1, cp11_1, cr11_2, cr11_3, cr11_4, cr11_5, cr11_6, cr11_7, cr11_8, cr11_9, cr11_10, cr11_11, cr11_12, cr11_13, cr11_14, ca_30, cs_30, ca_31, cs_31, ca_32, cs_32, ca_33, cs_33, ca_34, cs_34, ca_35, cs_35, ca_36, cs_36, ca_37, cs_37, ca_38, cs_38, ca_39, cs_39, ca_40, cs_40, ca_41, cs_41, ca_42, cs_42, car_20, car_21, car_22, cq11_3, cq11_4, cq3_1, cq0_0, cq0_1, if_true, if_false, Option.bind_some, cb_e, lt_e, nI_1, hs_nar2, nh4, upd_at, vau_at, ca_42_0, cs_42_0, x1, nI_add]
      exact e
    · rw [if_neg c] at e
      have z : ∀ a, nI a + 0 = nI (a + 0) := fun a => nI_add a 0
      rw [if_pos (hb.2 c), lt_e, nI_1, z]
      exact e
theorem c_choose_go (hT : GoodT T) (ht : t = 7 ∨ t = 22) (hs : s < 64) (hn : s < 2 ^ tNb T) (hp : pc s = n + 1) : ∀ k x fuel, x + k = tNb T → k < fuel → ∀ (A : Nat → Nat → Int32) (B : Nat → Nat → Int64), CText F A t T → (∀ y, y < 6 → s / 2 ^ y % 2 = 1 → Tab T B (s - 2 ^ y)) → Inv T A B s (((bitsL s x).map (fun y => y :: dpo T n (s - 2 ^ y))).foldl (bst T) none) → ∃ A' B', fX2_chooseLowest_b57 fuel 123 t (nI s) (nI (sWk T s 6)) (nI x) (mkC F A B rc) = some ((), mkC F A' B' rc) ∧ Inv T A' B' s (((bitsL s (tNb T)).map (fun y => y :: dpo T n (s - 2 ^ y))).foldl (bst T) none) ∧ (∀ c, ¬ c = 125 → A' c = A c) ∧ (∀ j, ¬ j = s → A' 125 j = A 125 j) ∧ ∀ d, ¬ d = 126 → ¬ d = 127 + s → B' d = B d := by
  obtain ⟨k0, k1, k2, k3, k4, k5, k6, k7, k8, k9, k10, k11⟩ := TA_of ht
  have hnb := hT.1
  have ks := kd_best s hs
  intro k
  induction k with
  | zero =>
    intro x fuel h1 h2 A B hx hT1 hI
    obtain ⟨fuel, rfl⟩ : ∃ q, fuel = q + 1 := ⟨fuel - 1, by omega⟩
    have : x = tNb T := by omega
    subst this
    have h0 := hx.1
    rw [fX2_chooseLowest_b57]
    simp -implicitDefEqProofs (disch := first | assumption | omega | decide | exact And.intro (by omega) (by omega)) only [cck_0, cr0_0, cr0_1, cr0_2, cr0_3, cg0_4, cp0_4, cg0_5, cp0_5, cck_1, cg1_0, cp1_0, cr1_1, cr1_2, cr1_3, cg1_4, cp1_4, cg1_5, cp1_5, cr1_6, cr1_7, cck_2, cr2_0, cr2_1, cr2_2, cck_3, cr3_0, cr3_1, cg3_2, cp3_2, cg3_3, cp3_3, cg3_4, cp3_4, cg3_5, cp3_5, cg3_6, cp3_6, cg3_7, cp3_7, cg3_8, cp3_8, cck_4, cg4_0, cp4_0, cg4_1, cp4_1, cr4_2, cr4_3, cr4_4, cr4_5, cck_5, cg5_0, cp5_0, cr5_1, cr5_2, cr5_3, cck_6, cg6_0, cp6_0, cg6_1, cp6_1, cck_7, cg7_0, cp7_0, cg7_1, cp7_1, cr7_2, cr7_3, cr7_4, cr7_5, cr7_6, cr7_7, cr7_8, cck_8, cr8_0, cr8_1, cck_9, cr9_0, cr9_1, cr9_2, cr9_3, cg9_4, cp9_4, cck_10, cg10_0, cp10_0, cr10_1, cr10_2, cr10_3, cr10_4, cg10_5, cp10_5, cr10_6, cr10_7, cr10_8, cg10_9, cp10_9, cg10_10, cp10_10, cr10_11, cr10_12, cr10_13, cr10_14, cck_11, cr11_0, cg11_1, cp11_1, cr11_2, cr11_3, cr11_4, cr11_5, cr11_6, cr11_7, cr11_8, cr11_9, cr11_10, cr11_11, cr11_12, cr11_13, cr11_14, ca_30, cs_30, ca_31, cs_31, ca_32, cs_32, ca_33, cs_33, ca_34, cs_34, ca_35, cs_35, ca_36, cs_36, ca_37, cs_37, ca_38, cs_38, ca_39, cs_39, ca_40, cs_40, ca_41, cs_41, ca_42, cs_42, car_20, car_21, car_22, cq11_3, cq11_4, cq3_1, cq0_0, cq0_1, if_true, if_false, Option.bind_some, cb_e, lt_e, nI_1, hs_nar2, nh4, upd_at, vau_at, ca_42_0, cs_42_0, h0]
    rw [if_pos (nI_le (by omega) (by omega))]
    exact ⟨A, B, rfl, hI, fun _ _ => rfl, fun _ _ => rfl, fun _ _ _ => rfl⟩
  | succ k ih =>
    intro x fuel h1 h2 A B hx hT1 hI
    obtain ⟨fuel, rfl⟩ : ∃ q, fuel = q + 1 := ⟨fuel - 1, by omega⟩
    have h0 := hx.1
    have hx6 : x < 6 := by omega
    have hb := bit_c s hs x hx6
    have es := bitsL_s s x
    rw [fX2_chooseLowest_b57]
    simp -implicitDefEqProofs (disch := first | assumption | omega | decide | exact And.intro (by omega) (by omega)) only [cck_0, cr0_0, cr0_1, cr0_2, cr0_3, cg0_4, cp0_4, cg0_5, cp0_5, cck_1, cg1_0, cp1_0, cr1_1, cr1_2, cr1_3, cg1_4, cp1_4, cg1_5, cp1_5, cr1_6, cr1_7, cck_2, cr2_0, cr2_1, cr2_2, cck_3, cr3_0, cr3_1, cg3_2, cp3_2, cg3_3, cp3_3, cg3_4, cp3_4, cg3_5, cp3_5, cg3_6, cp3_6, cg3_7, cp3_7, cg3_8, cp3_8, cck_4, cg4_0, cp4_0, cg4_1, cp4_1, cr4_2, cr4_3, cr4_4, cr4_5, cck_5, cg5_0, cp5_0, cr5_1, cr5_2, cr5_3, cck_6, cg6_0, cp6_0, cg6_1, cp6_1, cck_7, cg7_0, cp7_0, cg7_1, cp7_1, cr7_2, cr7_3, cr7_4, cr7_5, cr7_6, cr7_7, cr7_8, cck_8, cr8_0, cr8_1, cck_9, cr9_0, cr9_1, cr9_2, cr9_3, cg9_4, cp9_4, cck_10, cg10_0, cp10_0, cr10_1, cr10_2, cr10_3, cr10_4, cg10_5, cp10_5, cr10_6, cr10_7, cr10_8, cg10_9, cp10_9, cg10_10, cp10_10, cr10_11, cr10_12, cr10_13, cr10_14, cck_11, cr11_0, cg11_1, cp11_1, cr11_2, cr11_3, cr11_4, cr11_5, cr11_6, cr11_7, cr11_8, cr11_9, cr11_10, cr11_11, cr11_12, cr11_13, cr11_14, ca_30, cs_30, ca_31, cs_31, ca_32, cs_32, ca_33, cs_33, ca_34, cs_34, ca_35, cs_35, ca_36, cs_36, ca_37, cs_37, ca_38, cs_38, ca_39, cs_39, ca_40, cs_40, ca_41, cs_41, ca_42, cs_42, car_20, car_21, car_22, cq11_3, cq11_4, cq3_1, cq0_0, cq0_1, if_true, if_false, Option.bind_some, cb_e, lt_e, nI_1, hs_nar2, nh4, upd_at, vau_at, ca_42_0, cs_42_0, h0]
    rw [if_neg (nI_ge (by omega) (by omega))]
    by_cases c : s / 2 ^ x % 2 = 1
    · rw [if_pos c] at es
      obtain ⟨p1, p2, p3⟩ := pc_sub s hs x hx6 c
      have hq : s - 2 ^ x < 64 := by omega
      have hpq : pc (s - 2 ^ x) = n := by omega
      obtain ⟨t1, t2⟩ := hT1 x hx6 c
      rw [hpq] at t1 t2
      have hof := dpo_of (T := T) n (s - 2 ^ x) hq hpq
      obtain ⟨o1, o2, o3⟩ := Of_rV hT hq (by omega) hof
      have hxn : x < tNb T := by omega
      obtain ⟨w1, w2, w3, w4⟩ := wg_n hT hxn
      have x1 := hx.2.1 x hxn
      rw [w3, w4] at x1
      have hof2 := Of_cons hs hx6 c hof
      obtain ⟨v1, v2, v3⟩ := Of_rV hT hs hn hof2
      rw [List.length_cons] at v2
      have hW : sWk T s 6 = swt T (dpo T n (s - 2 ^ x)) + wn T x := hof2.2.2.symm
      have hWb : sWk T s 6 ≤ 120 := by
        have z : ∀ k, k ≤ 6 → sWk T s k ≤ 20 * k := by
          intro k
          induction k with
          | zero => intro _; exact Nat.le_refl 0
          | succ k ihk =>
            intro hk
            have := ihk (by omega)
            rw [sWk]
            by_cases cc : s / 2 ^ k % 2 = 1
            · have hkn : k < tNb T := Nat.lt_of_not_le (fun q => bit_z (tNb T) hT.1 s hn k (by omega) q cc)
              have := (wg_n hT hkn).1
              rw [if_pos cc]; omega
            · rw [if_neg cc]; omega
        have := z 6 (Nat.le_refl _)
        omega
      have hu : wn T x * gn T x ≤ 50 * (2 * sWk T s 6) := by
        have q1 : wn T x * gn T x ≤ wn T x * 99 := Nat.mul_le_mul_left _ w2.2
        omega
      have hmul : nI (wn T x) * nI (gn T x) = nI (wn T x * gn T x) := pk_mul _ _
      have hb1 : wn T x * gn T x ≤ 20 * 99 := Nat.mul_le_mul w1.2 w2.2
      obtain ⟨g1, g2, g3⟩ := fr_step (i := (dpo T n (s - 2 ^ x)).length) (a := (rV T (dpo T n (s - 2 ^ x))).1) (b := (rV T (dpo T n (s - 2 ^ x))).2) (u := wn T x * gn T x) (l := 2 * sWk T s 6) o1 (by omega) (by omega) (by omega) hu
      have kq := kd_best (s - 2 ^ x) hq
      obtain ⟨B1, c1, c2, c3, c4⟩ := c_copyR (F := F) (A := A) (B := B) (r := rc) (x := 126) (y := 127 + (s - 2 ^ x)) rfl kq (by omega)
      obtain ⟨B2, d1, d2, d3, d4⟩ := c_add (F := F) (A := A) (B := B1) (r := rc) (c := 126) rfl (a := (rV T (dpo T n (s - 2 ^ x))).1) (b := (rV T (dpo T n (s - 2 ^ x))).2) (u := wn T x * gn T x) (l := 2 * sWk T s 6) (by rw [c2]; exact t1) (by rw [c3]; exact t2) o1.1 (by omega) (o1.lt o2).2 (by omega) g1 g2
      have eR : fA (rV T (dpo T n (s - 2 ^ x))).1 (rV T (dpo T n (s - 2 ^ x))).2 (wn T x * gn T x) (2 * sWk T s 6) = rV T (x :: dpo T n (s - 2 ^ x)) := by rw [rV_cons, hW]
      rw [eR] at d2 d3
      have hbo := bit_o s hs x hx6 c
      have fr2 : ∀ d, ¬ d = 126 → B2 d = B d := fun d hd => by rw [d4 d hd, c4 d hd]
      have vb := v1.lt (by rw [List.length_cons]; omega)
      have fold1 : ((bitsL s (x + 1)).map (fun y => y :: dpo T n (s - 2 ^ y))).foldl (bst T) none = bst T (((bitsL s x).map (fun y => y :: dpo T n (s - 2 ^ y))).foldl (bst T) none) (x :: dpo T n (s - 2 ^ x)) := by
        rw [es, List.map_append, List.foldl_append]
        rfl
      have hmem : ∀ O, ((bitsL s x).map (fun y => y :: dpo T n (s - 2 ^ y))).foldl (bst T) none = some O → Of T s O := fun O hO => by
        rcases fold_mem _ _ _ hO with h3 | h3
        · obtain ⟨y, hy, rfl⟩ := List.mem_map.1 h3
          have hy2 := bitsL_mem.1 hy
          have hy6 : y < 6 := by omega
          obtain ⟨r1, r2, r3⟩ := pc_sub s hs y hy6 hy2.2
          exact Of_cons hs hy6 hy2.2 (dpo_of n _ (by omega) (by omega))
        · cases h3
      have hI1 : Inv T A B2 s (((bitsL s x).map (fun y => y :: dpo T n (s - 2 ^ y))).foldl (bst T) none) := by
        have e127 := fr2 (127 + s) (by omega)
        generalize ((bitsL s x).map (fun y => y :: dpo T n (s - 2 ^ y))).foldl (bst T) none = acc at hI ⊢
        cases acc with
        | none => exact ⟨by rw [e127]; exact hI.1, by rw [e127]; exact hI.2⟩
        | some O => exact ⟨⟨by rw [e127]; exact hI.1.1, by rw [e127]; exact hI.1.2⟩, hI.2⟩
      have hcmp : ∃ le : Bool, fX6_isMoreThan 126 (127 + s) (mkC F A B2 rc) = some (b2 le, mkC F A B2 rc) ∧ ((bitsL s (x + 1)).map (fun y => y :: dpo T n (s - 2 ^ y))).foldl (bst T) none = if le then some (x :: dpo T n (s - 2 ^ x)) else ((bitsL s x).map (fun y => y :: dpo T n (s - 2 ^ y))).foldl (bst T) none := by
        rw [fold1]
        generalize ((bitsL s x).map (fun y => y :: dpo T n (s - 2 ^ y))).foldl (bst T) none = acc at hI1 hmem ⊢
        cases acc with
        | none =>
          refine ⟨true, ?_, rfl⟩
          have e := c_isMore (F := F) (A := A) (B := B2) (r := rc) (x := 126) (y := 127 + s) rfl ks d2 d3 hI1.1 hI1.2 v1.1 (by decide) vb.1 vb.2 (by decide) (by decide)
          rw [e, decide_eq_true (by rw [Nat.zero_mul, Nat.mul_one]; exact rV_num hT hxn o1.1)]
        | some O =>
          obtain ⟨u1, u2, u3⟩ := Of_rV hT hs hn (hmem O rfl)
          have ub := u1.lt u2
          refine ⟨lessF (rV T O) (rV T (x :: dpo T n (s - 2 ^ x))), ?_, ?_⟩
          · have e := c_isMore (F := F) (A := A) (B := B2) (r := rc) (x := 126) (y := 127 + s) rfl ks d2 d3 hI1.1.1 hI1.1.2 v1.1 u1.1 vb.1 vb.2 ub.1 ub.2
            rw [e]
            rfl
          · rfl
      obtain ⟨le, m1, m2⟩ := hcmp
      rw [if_neg (fun q => hb.1 q c)]
      simp -implicitDefEqProofs (disch := first | assumption | omega | decide | exact And.intro (by omega) (by omega)) only [cck_0, cr0_0, cr0_1, cr0_2, cr0_3, cg0_4, cp0_4, cg0_5, cp0_5, cck_1, cg1_0, cp1_0, cr1_1, cr1_2, cr1_3, cg1_4, cp1_4, cg1_5, cp1_5, cr1_6, cr1_7, cck_2, cr2_0, cr2_1, cr2_2, cck_3, cr3_0, cr3_1, cg3_2, cp3_2, cg3_3, cp3_3, cg3_4, cp3_4, cg3_5, cp3_5, cg3_6, cp3_6, cg3_7, cp3_7, cg3_8, cp3_8, cck_4, cg4_0, cp4_0, cg4_1, cp4_1, cr4_2, cr4_3, cr4_4, cr4_5, cck_5, cg5_0, cp5_0, cr5_1, cr5_2, cr5_3, cck_6, cg6_0, cp6_0, cg6_1, cp6_1, cck_7, cg7_0, cp7_0, cg7_1, cp7_1, cr7_2, cr7_3, cr7_4, cr7_5, cr7_6, cr7_7, cr7_8, cck_8, cr8_0, cr8_1, cck_9, cr9_0, cr9_1, cr9_2, cr9_3, cg9_4, cp9_4, cck_10, cg10_0, cp10_0, cr10_1, cr10_2, cr10_3, cr10_4, cg10_5, cp10_5, cr10_6, cr10_7, cr10_8, cg10_9, cp10_9, cg10_10, cp10_10, cr10_11, cr10_12, cr10_13, cr10_14, cck_11, cr11_0, cg11_1, cp11_1, cr11_2, cr11_3, cr11_4, cr11_5, cr11_6, cr11_7, cr11_8, cr11_9, cr11_10, cr11_11, cr11_12, cr11_13, cr11_14, ca_30, cs_30, ca_31, cs_31, ca_32, cs_32, ca_33, cs_33, ca_34, cs_34, ca_35, cs_35, ca_36, cs_36, ca_37, cs_37, ca_38, cs_38, ca_39, cs_39, ca_40, cs_40, ca_41, cs_41, ca_42, cs_42, car_20, car_21, car_22, cq11_3, cq11_4, cq3_1, cq0_0, cq0_1, if_true, if_false, Option.bind_some, cb_e, lt_e, nI_1, hs_nar2, nh4, upd_at, vau_at, ca_42_0, cs_42_0, hbo, c1, x1.1, x1.2, hmul, nI_jJ, two_jN, d1, m1]
      cases le with
      | false =>
        rw [if_pos (show b2 false = 0 by decide)]
        unfold fX2_chooseLowest_b161
        rw [nI_1]
        obtain ⟨A', B', z1, z2, z3, z4, z5⟩ := ih (x + 1) fuel (by omega) (by omega) A B2 hx (fun y y1 y2 => by
          obtain ⟨r1, r2, r3⟩ := pc_sub s hs y y1 y2
          have := hT1 y y1 y2
          unfold Tab
          rw [fr2 (127 + (s - 2 ^ y)) (by omega)]
          exact this) (by rw [m2]; exact hI1)
        exact ⟨A', B', z1, z2, z3, z4, fun d q1 q2 => by rw [z5 d q1 q2, fr2 d q1]⟩
      | true =>
        obtain ⟨B3, f1, f2, f3, f4⟩ := c_copyR (F := F) (A := A) (B := B2) (r := rc) (x := 127 + s) (y := 126) ks rfl (by omega)
        rw [if_neg (show ¬ b2 true = 0 by decide)]
        simp -implicitDefEqProofs (disch := first | assumption | omega | decide | exact And.intro (by omega) (by omega)) only [cck_0, cr0_0, cr0_1, cr0_2, cr0_3, cg0_4, cp0_4, cg0_5, cp0_5, cck_1, cg1_0, cp1_0, cr1_1, cr1_2, cr1_3, cg1_4, cp1_4, cg1_5, cp1_5, cr1_6, cr1_7, cck_2, cr2_0, cr2_1, cr2_2, cck_3, cr3_0, cr3_1, cg3_2, cp3_2, cg3_3, cp3_3, cg3_4, cp3_4, cg3_5, cp3_5, cg3_6, cp3_6, cg3_7, cp3_7, cg3_8, cp3_8, cck_4, cg4_0, cp4_0, cg4_1, cp4_1, cr4_2, cr4_3, cr4_4, cr4_5, cck_5, cg5_0, cp5_0, cr5_1, cr5_2, cr5_3, cck_6, cg6_0, cp6_0, cg6_1, cp6_1, cck_7, cg7_0, cp7_0, cg7_1, cp7_1, cr7_2, cr7_3, cr7_4, cr7_5, cr7_6, cr7_7, cr7_8, cck_8, cr8_0, cr8_1, cck_9, cr9_0, cr9_1, cr9_2, cr9_3, cg9_4, cp9_4, cck_10, cg10_0, cp10_0, cr10_1, cr10_2, cr10_3, cr10_4, cg10_5, cp10_5, cr10_6, cr10_7, cr10_8, cg10_9, cp10_9, cg10_10, cp10_10, cr10_11, cr10_12, cr10_13, cr10_14, cck_11, cr11_0, cg11_1, cp11_1, cr11_2, cr11_3, cr11_4, cr11_5, cr11_6, cr11_7, cr11_8, cr11_9, cr11_10, cr11_11, cr11_12, cr11_13, cr11_14, ca_30, cs_30, ca_31, cs_31, ca_32, cs_32, ca_33, cs_33, ca_34, cs_34, ca_35, cs_35, ca_36, cs_36, ca_37, cs_37, ca_38, cs_38, ca_39, cs_39, ca_40, cs_40, ca_41, cs_41, ca_42, cs_42, car_20, car_21, car_22, cq11_3, cq11_4, cq3_1, cq0_0, cq0_1, if_true, if_false, Option.bind_some, cb_e, lt_e, nI_1, hs_nar2, nh4, upd_at, vau_at, ca_42_0, cs_42_0, f1]
        unfold fX2_chooseLowest_b161
        rw [nI_1]
        have hA' : ∀ c, ¬ c = 125 → va_up A 125 (upd (A 125) s (nI x)) c = A c := fun c hc => vau_ne hc
        obtain ⟨A', B', z1, z2, z3, z4, z5⟩ := ih (x + 1) fuel (by omega) (by omega) (va_up A 125 (upd (A 125) s (nI x))) B3 (hx.eq rfl (fun c q1 q2 q3 => hA' c (by omega))) (fun y y1 y2 => by
          obtain ⟨r1, r2, r3⟩ := pc_sub s hs y y1 y2
          have := hT1 y y1 y2
          unfold Tab
          rw [f4 (127 + (s - 2 ^ y)) (by omega), fr2 (127 + (s - 2 ^ y)) (by omega)]
          exact this) (by
            rw [m2]
            exact ⟨⟨by rw [f2]; exact d2, by rw [f3]; exact d3⟩, by rw [vau_at, upd_at]; rfl⟩)
        exact ⟨A', B', z1, z2, fun c hc => by rw [z3 c hc, hA' c hc], fun j hj => by rw [z4 j hj, vau_at, upd_ne hj], fun d q1 q2 => by rw [z5 d q1 q2, f4 d q2, fr2 d q1]⟩
    · rw [if_neg c, List.append_nil] at es
      rw [if_pos (hb.2 c)]
      unfold fX2_chooseLowest_b161
      rw [nI_1]
      exact ih (x + 1) fuel (by omega) (by omega) A B hx hT1 (by rw [es]; exact hI)
theorem c_choose (hT : GoodT T) (ht : t = 7 ∨ t = 22) (hs : s < 64) (h0 : 0 < s) (hn : s < 2 ^ tNb T) (A : Nat → Nat → Int32) (B : Nat → Nat → Int64) (hx : CText F A t T) (hT1 : ∀ y, y < 6 → s / 2 ^ y % 2 = 1 → Tab T B (s - 2 ^ y)) : ∃ A' B', fX2_chooseLowest 123 t (nI s) (mkC F A B rc) = some ((), mkC F A' B' rc) ∧ (Tab T B' s ∧ TabL T A' s) ∧ (∀ c, ¬ c = 125 → A' c = A c) ∧ (∀ j, ¬ j = s → A' 125 j = A 125 j) ∧ ∀ d, ¬ d = 126 → ¬ d = 127 + s → B' d = B d := by
  have hnb := hT.1
  have ks := kd_best s hs
  have p0 := pc_0 s hs
  obtain ⟨n, hn1⟩ : ∃ n, pc s = n + 1 := ⟨pc s - 1, by
    have : ¬ pc s = 0 := fun q => by have := p0.1.1 q; omega
    omega⟩
  have eW : sWk T s (tNb T) = sWk T s 6 := by
    have z : ∀ k, tNb T + k ≤ 6 → sWk T s (tNb T + k) = sWk T s (tNb T) := by
      intro k
      induction k with
      | zero => intro _; rfl
      | succ k ih =>
        intro hk
        rw [← Nat.add_assoc, sWk, ih (by omega), if_neg (bit_z (tNb T) hT.1 s hn (tNb T + k) (by omega) (by omega))]
        rfl
    have := z (6 - tNb T) (by omega)
    rw [show tNb T + (6 - tNb T) = 6 by omega] at this
    exact this.symm
  have w1 := c_wsum (F := F) (rc := rc) (B := B) hT ht hs hx (tNb T) 0 FU (by omega) (by unfold FU; omega)
  have w1' : fX2_chooseLowest_b5 FU 123 t (nI s) 0 0 (mkC F A B rc) = fX2_chooseLowest_b43 123 t (nI s) (nI (sWk T s 6)) (mkC F A B rc) := by rw [← eW]; exact w1
  obtain ⟨B1, z1, z2, z3, z4⟩ := c_zero (F := F) (A := A) B (r := rc) (c := 127 + s) ks
  obtain ⟨A2, B2, g1, g2, g3, g4, g5⟩ := c_choose_go (F := F) (rc := rc) hT ht hs hn hn1 (tNb T) 0 FU (by omega) (by unfold FU; omega) A B1 hx (fun y y1 y2 => by
    obtain ⟨r1, r2, r3⟩ := pc_sub s hs y y1 y2
    have := hT1 y y1 y2
    unfold Tab
    rw [z4 (127 + (s - 2 ^ y)) (by omega)]
    exact this) ⟨z2, z3⟩
  rw [bits_nb (tNb T) hT.1 s hn, dpo_some hs (by omega)] at g2
  refine ⟨A2, B2, ?_, ⟨?_, ?_⟩, g3, g4, fun d q1 q2 => by rw [g5 d q1 q2, z4 d q2]⟩
  · unfold fX2_chooseLowest
    simp -implicitDefEqProofs (disch := first | assumption | omega | decide | exact And.intro (by omega) (by omega)) only [cck_0, cr0_0, cr0_1, cr0_2, cr0_3, cg0_4, cp0_4, cg0_5, cp0_5, cck_1, cg1_0, cp1_0, cr1_1, cr1_2, cr1_3, cg1_4, cp1_4, cg1_5, cp1_5, cr1_6, cr1_7, cck_2, cr2_0, cr2_1, cr2_2, cck_3, cr3_0, cr3_1, cg3_2, cp3_2, cg3_3, cp3_3, cg3_4, cp3_4, cg3_5, cp3_5, cg3_6, cp3_6, cg3_7, cp3_7, cg3_8, cp3_8, cck_4, cg4_0, cp4_0, cg4_1, cp4_1, cr4_2, cr4_3, cr4_4, cr4_5, cck_5, cg5_0, cp5_0, cr5_1, cr5_2, cr5_3, cck_6, cg6_0, cp6_0, cg6_1, cp6_1, cck_7, cg7_0, cp7_0, cg7_1, cp7_1, cr7_2, cr7_3, cr7_4, cr7_5, cr7_6, cr7_7, cr7_8, cck_8, cr8_0, cr8_1, cck_9, cr9_0, cr9_1, cr9_2, cr9_3, cg9_4, cp9_4, cck_10, cg10_0, cp10_0, cr10_1, cr10_2, cr10_3, cr10_4, cg10_5, cp10_5, cr10_6, cr10_7, cr10_8, cg10_9, cp10_9, cg10_10, cp10_10, cr10_11, cr10_12, cr10_13, cr10_14, cck_11, cr11_0, cg11_1, cp11_1, cr11_2, cr11_3, cr11_4, cr11_5, cr11_6, cr11_7, cr11_8, cr11_9, cr11_10, cr11_11, cr11_12, cr11_13, cr11_14, ca_30, cs_30, ca_31, cs_31, ca_32, cs_32, ca_33, cs_33, ca_34, cs_34, ca_35, cs_35, ca_36, cs_36, ca_37, cs_37, ca_38, cs_38, ca_39, cs_39, ca_40, cs_40, ca_41, cs_41, ca_42, cs_42, car_20, car_21, car_22, cq11_3, cq11_4, cq3_1, cq0_0, cq0_1, if_true, if_false, Option.bind_some, cb_e, lt_e, nI_1, hs_nar2, nh4, upd_at, vau_at, ca_42_0, cs_42_0, w1']
    unfold fX2_chooseLowest_b43
    simp -implicitDefEqProofs (disch := first | assumption | omega | decide | exact And.intro (by omega) (by omega)) only [cck_0, cr0_0, cr0_1, cr0_2, cr0_3, cg0_4, cp0_4, cg0_5, cp0_5, cck_1, cg1_0, cp1_0, cr1_1, cr1_2, cr1_3, cg1_4, cp1_4, cg1_5, cp1_5, cr1_6, cr1_7, cck_2, cr2_0, cr2_1, cr2_2, cck_3, cr3_0, cr3_1, cg3_2, cp3_2, cg3_3, cp3_3, cg3_4, cp3_4, cg3_5, cp3_5, cg3_6, cp3_6, cg3_7, cp3_7, cg3_8, cp3_8, cck_4, cg4_0, cp4_0, cg4_1, cp4_1, cr4_2, cr4_3, cr4_4, cr4_5, cck_5, cg5_0, cp5_0, cr5_1, cr5_2, cr5_3, cck_6, cg6_0, cp6_0, cg6_1, cp6_1, cck_7, cg7_0, cp7_0, cg7_1, cp7_1, cr7_2, cr7_3, cr7_4, cr7_5, cr7_6, cr7_7, cr7_8, cck_8, cr8_0, cr8_1, cck_9, cr9_0, cr9_1, cr9_2, cr9_3, cg9_4, cp9_4, cck_10, cg10_0, cp10_0, cr10_1, cr10_2, cr10_3, cr10_4, cg10_5, cp10_5, cr10_6, cr10_7, cr10_8, cg10_9, cp10_9, cg10_10, cp10_10, cr10_11, cr10_12, cr10_13, cr10_14, cck_11, cr11_0, cg11_1, cp11_1, cr11_2, cr11_3, cr11_4, cr11_5, cr11_6, cr11_7, cr11_8, cr11_9, cr11_10, cr11_11, cr11_12, cr11_13, cr11_14, ca_30, cs_30, ca_31, cs_31, ca_32, cs_32, ca_33, cs_33, ca_34, cs_34, ca_35, cs_35, ca_36, cs_36, ca_37, cs_37, ca_38, cs_38, ca_39, cs_39, ca_40, cs_40, ca_41, cs_41, ca_42, cs_42, car_20, car_21, car_22, cq11_3, cq11_4, cq3_1, cq0_0, cq0_1, if_true, if_false, Option.bind_some, cb_e, lt_e, nI_1, hs_nar2, nh4, upd_at, vau_at, ca_42_0, cs_42_0, z1]
    exact g1
  · unfold Tab
    rw [hn1]
    exact g2.1
  · intro _
    rw [hn1]
    exact g2.2
end CH
theorem sub_c : ∀ q, q < 64 → ∀ s, s < 64 → ((nI q &&& (nI s ^^^ (-1 : Int32))) = 0 ↔ q &&& s = q) := by decide +kernel
theorem sub_s : ∀ q, q < 64 → ∀ s, s < 64 → q &&& s = q → ∀ x, x < 6 → q / 2 ^ x % 2 = 1 → (q - 2 ^ x) &&& s = q - 2 ^ x := by decide +kernel
theorem sub_self (s : Nat) : s &&& s = s := Nat.and_self s
theorem c_table {F : Nat → Nat → Int32} {rc : Nat → Nat} {t : Nat} {T : TD} {s : Nat} (hT : GoodT T) (ht : t = 7 ∨ t = 22) (hs : s < 64) (hn : s < 2 ^ tNb T) : ∀ k p fuel, p + k = s + 1 → 0 < p → k < fuel → ∀ (A : Nat → Nat → Int32) (B : Nat → Nat → Int64), CText F A t T → (∀ q, q < p → q &&& s = q → Tab T B q ∧ TabL T A q) → ∃ A' B', fX2_findBest_b13 fuel 123 t (nI s) (nI p) (mkC F A B rc) = fX2_findBest_b44 123 (nI s) (mkC F A' B' rc) ∧ (∀ q, q ≤ s → q &&& s = q → Tab T B' q ∧ TabL T A' q) ∧ (∀ c, ¬ c = 125 → A' c = A c) ∧ ∀ d, d < 126 → B' d = B d := by
  intro k
  induction k with
  | zero =>
    intro p fuel h1 h2 h3 A B hx hq
    obtain ⟨fuel, rfl⟩ : ∃ q, fuel = q + 1 := ⟨fuel - 1, by omega⟩
    rw [fX2_findBest_b13, if_pos (nI_lt (by omega) (by omega))]
    exact ⟨A, B, rfl, fun q q1 q2 => hq q (by omega) q2, fun _ _ => rfl, fun _ _ => rfl⟩
  | succ k ih =>
    intro p fuel h1 h2 h3 A B hx hq
    obtain ⟨fuel, rfl⟩ : ∃ q, fuel = q + 1 := ⟨fuel - 1, by omega⟩
    have hp : p < 64 := by omega
    have hsc := sub_c p hp s hs
    rw [fX2_findBest_b13, if_neg (nI_nlt (by omega) (by omega)), if_neg (show ¬ (64 : Int32) ≤ nI p from nI_ge (b := 64) (by omega) (by decide))]
    unfold fX2_findBest_b38
    by_cases c : p &&& s = p
    · rw [if_pos (hsc.2 c)]
      obtain ⟨A1, B1, g1, g2, g3, g4, g5⟩ := c_choose (F := F) (rc := rc) hT ht hp h2 (by omega) A B hx (fun y y1 y2 => (hq (p - 2 ^ y) (pc_sub p hp y y1 y2).2.1 (sub_s p hp s hs c y y1 y2)).1)
      simp -implicitDefEqProofs (disch := first | assumption | omega | decide | exact And.intro (by omega) (by omega)) only [cck_0, cr0_0, cr0_1, cr0_2, cr0_3, cg0_4, cp0_4, cg0_5, cp0_5, cck_1, cg1_0, cp1_0, cr1_1, cr1_2, cr1_3, cg1_4, cp1_4, cg1_5, cp1_5, cr1_6, cr1_7, cck_2, cr2_0, cr2_1, cr2_2, cck_3, cr3_0, cr3_1, cg3_2, cp3_2, cg3_3, cp3_3, cg3_4, cp3_4, cg3_5, cp3_5, cg3_6, cp3_6, cg3_7, cp3_7, cg3_8, cp3_8, cck_4, cg4_0, cp4_0, cg4_1, cp4_1, cr4_2, cr4_3, cr4_4, cr4_5, cck_5, cg5_0, cp5_0, cr5_1, cr5_2, cr5_3, cck_6, cg6_0, cp6_0, cg6_1, cp6_1, cck_7, cg7_0, cp7_0, cg7_1, cp7_1, cr7_2, cr7_3, cr7_4, cr7_5, cr7_6, cr7_7, cr7_8, cck_8, cr8_0, cr8_1, cck_9, cr9_0, cr9_1, cr9_2, cr9_3, cg9_4, cp9_4, cck_10, cg10_0, cp10_0, cr10_1, cr10_2, cr10_3, cr10_4, cg10_5, cp10_5, cr10_6, cr10_7, cr10_8, cg10_9, cp10_9, cg10_10, cp10_10, cr10_11, cr10_12, cr10_13, cr10_14, cck_11, cr11_0, cg11_1, cp11_1, cr11_2, cr11_3, cr11_4, cr11_5, cr11_6, cr11_7, cr11_8, cr11_9, cr11_10, cr11_11, cr11_12, cr11_13, cr11_14, ca_30, cs_30, ca_31, cs_31, ca_32, cs_32, ca_33, cs_33, ca_34, cs_34, ca_35, cs_35, ca_36, cs_36, ca_37, cs_37, ca_38, cs_38, ca_39, cs_39, ca_40, cs_40, ca_41, cs_41, ca_42, cs_42, car_20, car_21, car_22, cq11_3, cq11_4, cq3_1, cq0_0, cq0_1, if_true, if_false, Option.bind_some, cb_e, lt_e, nI_1, hs_nar2, nh4, upd_at, vau_at, ca_42_0, cs_42_0, g1]
      obtain ⟨A2, B2, z1, z2, z3, z4⟩ := ih (p + 1) fuel (by omega) (by omega) (by omega) A1 B1 (hx.eq rfl (fun c q1 q2 q3 => g3 c (by omega))) (fun q q1 q2 => by
        by_cases e : q = p
        · rw [e]; exact g2
        · obtain ⟨a1, a2⟩ := hq q (by omega) q2
          unfold Tab TabL
          rw [g5 (127 + q) (by omega) (by omega), g4 q e]
          exact ⟨a1, a2⟩)
      exact ⟨A2, B2, z1, z2, fun c hc => by rw [z3 c hc, g3 c hc], fun d hd => by rw [z4 d hd, g5 d (by omega) (by omega)]⟩
    · rw [if_neg (fun q => c (hsc.1 q)), nI_1]
      exact ih (p + 1) fuel (by omega) (by omega) (by omega) A B hx (fun q q1 q2 => by
        by_cases e : q = p
        · rw [e] at q2; exact absurd q2 c
        · exact hq q (by omega) q2)
theorem c_ten (a d : Nat) : nI a * (10 : Int32) + nI d + 1 = nI (10 * a + d + 1) := by
  have e : nI a * (10 : Int32) = nI (a * 10) := pk_mul a 10
  rw [e, nI_add, nI_1, Nat.mul_comm]
theorem c_number {F : Nat → Nat → Int32} {rc : Nat → Nat} {T : TD} {st : Nat} (hst : st < 64) {A : Nat → Nat → Int32} {B : Nat → Nat → Int64} (hL : ∀ q, q ≤ st → q &&& st = q → Tab T B q ∧ TabL T A q) : ∀ n s i fuel a, pc s = n → i + n ≤ 6 → s ≤ st → s &&& st = s → n < fuel → fX2_findBest_b52 fuel 123 (nI a) (nI s) (nI i) (mkC F A B rc) = some (nI ((dpo T n s).foldl (fun a d => 10 * a + d + 1) a), mkC F A B rc) := by
  intro n
  induction n with
  | zero =>
    intro s i fuel a h1 h2 h3 h4 h5
    obtain ⟨fuel, rfl⟩ : ∃ q, fuel = q + 1 := ⟨fuel - 1, by omega⟩
    have := (pc_0 s (by omega)).1.1 h1
    subst this
    rw [fX2_findBest_b52]
    by_cases c : i = 6
    · subst c
      rw [if_pos (by decide)]
      rfl
    · rw [if_neg (show ¬ (6 : Int32) ≤ nI i from nI_ge (b := 6) (by omega) (by decide)), if_pos (by decide)]
      rfl
  | succ n ih =>
    intro s i fuel a h1 h2 h3 h4 h5
    obtain ⟨fuel, rfl⟩ : ∃ q, fuel = q + 1 := ⟨fuel - 1, by omega⟩
    have hs : s < 64 := by omega
    have s0 : 0 < s := Nat.pos_of_ne_zero (fun q => by
      have := (pc_0 s hs).1.2 q
      omega)
    obtain ⟨x, x1, x2, x3⟩ := dpo_ex (T := T) hs h1
    obtain ⟨p1, p2, p3⟩ := pc_sub s hs x x1 x2
    have hl := (hL s h3 h4).2 s0
    rw [h1, x3] at hl
    have hl' : A 125 s = nI x := hl
    have hbo := bit_o s hs x x1 x2
    rw [fX2_findBest_b52, if_neg (show ¬ (6 : Int32) ≤ nI i from nI_ge (b := 6) (by omega) (by decide)), if_neg (nI_nle s0 (by omega)), if_neg (show ¬ (64 : Int32) ≤ nI s from nI_ge (b := 64) (by omega) (by decide)), x3, List.foldl_cons]
    simp -implicitDefEqProofs (disch := first | assumption | omega | decide | exact And.intro (by omega) (by omega)) only [cck_0, cr0_0, cr0_1, cr0_2, cr0_3, cg0_4, cp0_4, cg0_5, cp0_5, cck_1, cg1_0, cp1_0, cr1_1, cr1_2, cr1_3, cg1_4, cp1_4, cg1_5, cp1_5, cr1_6, cr1_7, cck_2, cr2_0, cr2_1, cr2_2, cck_3, cr3_0, cr3_1, cg3_2, cp3_2, cg3_3, cp3_3, cg3_4, cp3_4, cg3_5, cp3_5, cg3_6, cp3_6, cg3_7, cp3_7, cg3_8, cp3_8, cck_4, cg4_0, cp4_0, cg4_1, cp4_1, cr4_2, cr4_3, cr4_4, cr4_5, cck_5, cg5_0, cp5_0, cr5_1, cr5_2, cr5_3, cck_6, cg6_0, cp6_0, cg6_1, cp6_1, cck_7, cg7_0, cp7_0, cg7_1, cp7_1, cr7_2, cr7_3, cr7_4, cr7_5, cr7_6, cr7_7, cr7_8, cck_8, cr8_0, cr8_1, cck_9, cr9_0, cr9_1, cr9_2, cr9_3, cg9_4, cp9_4, cck_10, cg10_0, cp10_0, cr10_1, cr10_2, cr10_3, cr10_4, cg10_5, cp10_5, cr10_6, cr10_7, cr10_8, cg10_9, cp10_9, cg10_10, cp10_10, cr10_11, cr10_12, cr10_13, cr10_14, cck_11, cr11_0, cg11_1, cp11_1, cr11_2, cr11_3, cr11_4, cr11_5, cr11_6, cr11_7, cr11_8, cr11_9, cr11_10, cr11_11, cr11_12, cr11_13, cr11_14, ca_30, cs_30, ca_31, cs_31, ca_32, cs_32, ca_33, cs_33, ca_34, cs_34, ca_35, cs_35, ca_36, cs_36, ca_37, cs_37, ca_38, cs_38, ca_39, cs_39, ca_40, cs_40, ca_41, cs_41, ca_42, cs_42, car_20, car_21, car_22, cq11_3, cq11_4, cq3_1, cq0_0, cq0_1, if_true, if_false, Option.bind_some, cb_e, lt_e, nI_1, hs_nar2, nh4, upd_at, vau_at, ca_42_0, cs_42_0, hl', c_ten, hbo]
    exact ih (s - 2 ^ x) (i + 1) fuel _ (by omega) (by omega) (by omega) (sub_s s hs st hst h4 x x1 x2) (by omega)
theorem c_best {F A : Nat → Nat → Int32} {rc : Nat → Nat} (B : Nat → Nat → Int64) {t : Nat} {T : TD} {s : Nat} (hT : GoodT T) (ht : t = 7 ∨ t = 22) (h0 : 0 < s) (hs : s < 64) (hn : s < 2 ^ tNb T) (hx : CText F A t T) : ∃ A' B', fX2_findBest 123 t (nI s) (mkC F A B rc) = some (nI (numO (dpo T (pc s) s)), mkC F A' B' rc) ∧ CR A A' B B' := by
  obtain ⟨B1, z1, z2, z3, z4⟩ := c_zero (F := F) (A := A) B (r := rc) (c := 127) rfl
  obtain ⟨A2, B2, g1, g2, g3, g4⟩ := c_table (F := F) (rc := rc) hT ht hs hn s 1 FU (by omega) (by omega) (by unfold FU; omega) A B1 hx (fun q q1 q2 => by
    have : q = 0 := by omega
    subst this
    refine ⟨?_, fun h => absurd h (by omega)⟩
    exact ⟨z2, z3⟩)
  have nm := c_number (F := F) (rc := rc) hs g2 (pc s) s 0 FU 0 rfl (by have := (pc_0 s hs).2; omega) (Nat.le_refl _) (sub_self s) (by have := (pc_0 s hs).2; unfold FU; omega)
  have nm' : fX2_findBest_b52 FU 123 0 (nI s) 0 (mkC F A2 B2 rc) = some (nI (numO (dpo T (pc s) s)), mkC F A2 B2 rc) := nm
  have g1' : fX2_findBest_b13 FU 123 t (nI s) 1 (mkC F A B1 rc) = fX2_findBest_b44 123 (nI s) (mkC F A2 B2 rc) := g1
  have car0 : aR (mkC F A B rc) 6 124 0 = some 127 := car_22 (j := 0) rfl (by decide)
  refine ⟨A2, B2, ?_, g3, fun d hd => by rw [g4 d hd, z4 d (by omega)]⟩
  unfold fX2_findBest
  simp -implicitDefEqProofs (disch := first | assumption | omega | decide | exact And.intro (by omega) (by omega)) only [cck_0, cr0_0, cr0_1, cr0_2, cr0_3, cg0_4, cp0_4, cg0_5, cp0_5, cck_1, cg1_0, cp1_0, cr1_1, cr1_2, cr1_3, cg1_4, cp1_4, cg1_5, cp1_5, cr1_6, cr1_7, cck_2, cr2_0, cr2_1, cr2_2, cck_3, cr3_0, cr3_1, cg3_2, cp3_2, cg3_3, cp3_3, cg3_4, cp3_4, cg3_5, cp3_5, cg3_6, cp3_6, cg3_7, cp3_7, cg3_8, cp3_8, cck_4, cg4_0, cp4_0, cg4_1, cp4_1, cr4_2, cr4_3, cr4_4, cr4_5, cck_5, cg5_0, cp5_0, cr5_1, cr5_2, cr5_3, cck_6, cg6_0, cp6_0, cg6_1, cp6_1, cck_7, cg7_0, cp7_0, cg7_1, cp7_1, cr7_2, cr7_3, cr7_4, cr7_5, cr7_6, cr7_7, cr7_8, cck_8, cr8_0, cr8_1, cck_9, cr9_0, cr9_1, cr9_2, cr9_3, cg9_4, cp9_4, cck_10, cg10_0, cp10_0, cr10_1, cr10_2, cr10_3, cr10_4, cg10_5, cp10_5, cr10_6, cr10_7, cr10_8, cg10_9, cp10_9, cg10_10, cp10_10, cr10_11, cr10_12, cr10_13, cr10_14, cck_11, cr11_0, cg11_1, cp11_1, cr11_2, cr11_3, cr11_4, cr11_5, cr11_6, cr11_7, cr11_8, cr11_9, cr11_10, cr11_11, cr11_12, cr11_13, cr11_14, ca_30, cs_30, ca_31, cs_31, ca_32, cs_32, ca_33, cs_33, ca_34, cs_34, ca_35, cs_35, ca_36, cs_36, ca_37, cs_37, ca_38, cs_38, ca_39, cs_39, ca_40, cs_40, ca_41, cs_41, ca_42, cs_42, car_20, car_21, car_22, cq11_3, cq11_4, cq3_1, cq0_0, cq0_1, if_true, if_false, Option.bind_some, cb_e, lt_e, nI_1, hs_nar2, nh4, upd_at, vau_at, ca_42_0, cs_42_0, car0, z1, g1']
  unfold fX2_findBest_b44
  exact nm'
theorem ag_bestOrder : Ag_I Rel fX11_bestOrder fX12_bestOrder := by
  intro σc σm a hR
  obtain ⟨F, A, B, Fc, Ac, Bc, rc, t, lv, T, u, w, ps, n7, sp, rfl, rfl, hT, hC⟩ := id hR
  obtain ⟨x, hx, rfl⟩ := iI_of a
  have hG := hC.2.1.1
  have hr0 := hC.1.2.1
  have h18 := hC.1.2.2.2.1
  have lv1 := hC.1.2.2.1
  have mnb := hC.2.1.2.1.1
  have cnb := hC.2.1.2.2.1
  obtain ⟨k0, k1, k2, k3, k4, k5, k6, k7, k8, k9, k10, k11⟩ := TA_of hC.t7
  have hp := bit_p (tNb T) hG.1
  obtain ⟨w1, w2⟩ := pow_pos' (tNb T) hG.1
  have e1 : nI (2 ^ tNb T) - 1 = iI ((2 ^ tNb T : Nat) - 1 : Int) := iI_sub ((2 ^ tNb T : Nat) : Int) 1
  have hin : fX12_in (iI x) (1 : Int32) (iI ((2 ^ tNb T : Nat) - 1 : Int)) (mkM F A B) = some (b2 (decide (1 ≤ x ∧ x ≤ ((2 ^ tNb T : Nat) - 1 : Int))), mkM F A B) := m_in (a := 1) hx ⟨by decide, by decide⟩ ⟨by omega, by omega⟩ (mkM F A B)
  have i1 : iI x ≤ 0 ↔ x ≤ 0 := iI_le0 hx
  have i2 : iI x < nI (2 ^ tNb T) ↔ x < ((2 ^ tNb T : Nat) : Int) := iI_lt (b := ((2 ^ tNb T : Nat) : Int)) hx ⟨by omega, by omega⟩
  unfold fX11_bestOrder fX12_bestOrder
  by_cases c : 1 ≤ x ∧ x ≤ ((2 ^ tNb T : Nat) - 1 : Int)
  · obtain ⟨s, rfl⟩ : ∃ s : Nat, x = (s : Int) := ⟨x.toNat, by omega⟩
    have e3 : iI (s : Int) = nI s := rfl
    have nb1 : ¬ b2 true = 0 := by decide
    obtain ⟨F1, A1, B1, m1, m2⟩ := m_best (F := F) (A := A) B hG hC.2.1.2.1 h18 lv1 (s := s) (by omega) (by omega) (by omega)
    obtain ⟨Ac1, Bc1, g1, g2⟩ := c_best (F := Fc) (A := Ac) (rc := rc) Bc hG hC.t7 (s := s) (by omega) (by omega) (by omega) hC.2.1.2.2
    have j1 : ¬ nI s ≤ 0 := fun q => by have := i1.1 q; omega
    have j2 : nI s < nI (2 ^ tNb T) := i2.2 (by omega)
    rw [e3] at hin ⊢
    refine ⟨nI (numO (dpo T (pc s) s)), mkC Fc Ac1 Bc1 rc, mkM F1 A1 B1, ?_, ?_, rel_ratio hT hC m2 g2⟩
    · simp -implicitDefEqProofs (disch := first | assumption | omega | decide | exact And.intro (by omega) (by omega)) only [cck_0, cr0_0, cr0_1, cr0_2, cr0_3, cg0_4, cp0_4, cg0_5, cp0_5, cck_1, cg1_0, cp1_0, cr1_1, cr1_2, cr1_3, cg1_4, cp1_4, cg1_5, cp1_5, cr1_6, cr1_7, cck_2, cr2_0, cr2_1, cr2_2, cck_3, cr3_0, cr3_1, cg3_2, cp3_2, cg3_3, cp3_3, cg3_4, cp3_4, cg3_5, cp3_5, cg3_6, cp3_6, cg3_7, cp3_7, cg3_8, cp3_8, cck_4, cg4_0, cp4_0, cg4_1, cp4_1, cr4_2, cr4_3, cr4_4, cr4_5, cck_5, cg5_0, cp5_0, cr5_1, cr5_2, cr5_3, cck_6, cg6_0, cp6_0, cg6_1, cp6_1, cck_7, cg7_0, cp7_0, cg7_1, cp7_1, cr7_2, cr7_3, cr7_4, cr7_5, cr7_6, cr7_7, cr7_8, cck_8, cr8_0, cr8_1, cck_9, cr9_0, cr9_1, cr9_2, cr9_3, cg9_4, cp9_4, cck_10, cg10_0, cp10_0, cr10_1, cr10_2, cr10_3, cr10_4, cg10_5, cp10_5, cr10_6, cr10_7, cr10_8, cg10_9, cp10_9, cg10_10, cp10_10, cr10_11, cr10_12, cr10_13, cr10_14, cck_11, cr11_0, cg11_1, cp11_1, cr11_2, cr11_3, cr11_4, cr11_5, cr11_6, cr11_7, cr11_8, cr11_9, cr11_10, cr11_11, cr11_12, cr11_13, cr11_14, ca_30, cs_30, ca_31, cs_31, ca_32, cs_32, ca_33, cs_33, ca_34, cs_34, ca_35, cs_35, ca_36, cs_36, ca_37, cs_37, ca_38, cs_38, ca_39, cs_39, ca_40, cs_40, ca_41, cs_41, ca_42, cs_42, car_20, car_21, car_22, cq11_3, cq11_4, cq3_1, cq0_0, cq0_1, if_true, if_false, Option.bind_some, cb_e, lt_e, nI_1, hs_nar2, nh4, upd_at, vau_at, ca_42_0, cs_42_0, if_neg j1, hr0, cnb, hp, if_pos j2, g1]
    · simp -implicitDefEqProofs (disch := first | assumption | omega | decide | exact And.intro (by omega) (by omega)) only [mck, mg_0, mp_0, mr_1, mg_2, mp_2, mr_3, mg_4, mp_4, mr_5, mr_6, mr_7, mr_8, mr_9, mg_10, mp_10, mg_11, mp_11, mg_12, mp_12, mg_13, mp_13, mg_14, mp_14, mg_15, mp_15, mg_16, mp_16, mg_17, mp_17, mg_18, mp_18, mg_19, mp_19, mg_20, mp_20, mr_21, mr_22, mr_23, mr_24, mr_25, mr_26, mr_27, mr_28, mr_29, mr_30, mr_31, mr_32, mg_33, mp_33, mr_34, mr_35, mr_36, mr_37, mr_38, mg_39, mp_39, mr_40, mr_41, mr_42, mg_43, mp_43, mr_44, mr_45, mg_46, mp_46, mr_47, mr_48, mg_49, mp_49, mg_50, mp_50, mg_51, mp_51, mr_52, mr_53, mr_54, mg_55, mp_55, mr_56, mr_57, mg_58, mp_58, mg_59, mp_59, mg_60, mp_60, mr_61, mg_62, mp_62, mr_63, mr_64, mr_65, mr_66, mr_67, mr_68, ma_1, ms_1, ma_2, ms_2, ma_3, ms_3, ma_4, ms_4, ma_5, ms_5, ma_6, ms_6, ma_7, ms_7, ma_8, ms_8, ma_9, ms_9, ma_10, ms_10, ma_11, ms_11, ma_12, ms_12, ma_13, ms_13, ma_14, ms_14, ma_15, ms_15, ma_16, ms_16, ma_17, ms_17, ma_18, ms_18, ma_19, ms_19, ma_20, ms_20, ma_21, ms_21, ma_22, ms_22, ma_23, ms_23, ma_24, ms_24, ma_25, ms_25, ma_26, ms_26, ma_27, ms_27, ma_28, ms_28, ma_29, ms_29, ma_30, ms_30, ma_31, ms_31, ma_32, ms_32, ma_33, ms_33, ma_34, ms_34, ma_35, ms_35, ma_36, ms_36, ma_37, ms_37, ma_38, ms_38, ma_39, ms_39, ma_40, ms_40, ma_41, ms_41, ma_42, ms_42, ma_43, ms_43, if_true, if_false, Option.bind_some, cb_e, lt_e, nI_1, hs_nar2, nh4, upd_at, vau_at, ma_30_18, ms_30_18, ma_31_18, ms_31_18, ma_28_0, ms_28_0, ma_28_1, ms_28_1, ma_28_2, ms_28_2, ma_28_3, ms_28_3, ma_28_4, ms_28_4, ma_42_0, ms_42_0, ma_42_1, ms_42_1, ma_42_2, ms_42_2, ma_36_0, ms_36_0, h18, mnb, hp, e1, hin, decide_eq_true c, if_neg nb1]
      exact m1
  · have nb0 : b2 false = 0 := by decide
    refine ⟨-1, mkC Fc Ac Bc rc, mkM F A B, ?_, ?_, hR⟩
    · by_cases c1 : x ≤ 0
      · simp -implicitDefEqProofs (disch := first | assumption | omega | decide | exact And.intro (by omega) (by omega)) only [cck_0, cr0_0, cr0_1, cr0_2, cr0_3, cg0_4, cp0_4, cg0_5, cp0_5, cck_1, cg1_0, cp1_0, cr1_1, cr1_2, cr1_3, cg1_4, cp1_4, cg1_5, cp1_5, cr1_6, cr1_7, cck_2, cr2_0, cr2_1, cr2_2, cck_3, cr3_0, cr3_1, cg3_2, cp3_2, cg3_3, cp3_3, cg3_4, cp3_4, cg3_5, cp3_5, cg3_6, cp3_6, cg3_7, cp3_7, cg3_8, cp3_8, cck_4, cg4_0, cp4_0, cg4_1, cp4_1, cr4_2, cr4_3, cr4_4, cr4_5, cck_5, cg5_0, cp5_0, cr5_1, cr5_2, cr5_3, cck_6, cg6_0, cp6_0, cg6_1, cp6_1, cck_7, cg7_0, cp7_0, cg7_1, cp7_1, cr7_2, cr7_3, cr7_4, cr7_5, cr7_6, cr7_7, cr7_8, cck_8, cr8_0, cr8_1, cck_9, cr9_0, cr9_1, cr9_2, cr9_3, cg9_4, cp9_4, cck_10, cg10_0, cp10_0, cr10_1, cr10_2, cr10_3, cr10_4, cg10_5, cp10_5, cr10_6, cr10_7, cr10_8, cg10_9, cp10_9, cg10_10, cp10_10, cr10_11, cr10_12, cr10_13, cr10_14, cck_11, cr11_0, cg11_1, cp11_1, cr11_2, cr11_3, cr11_4, cr11_5, cr11_6, cr11_7, cr11_8, cr11_9, cr11_10, cr11_11, cr11_12, cr11_13, cr11_14, ca_30, cs_30, ca_31, cs_31, ca_32, cs_32, ca_33, cs_33, ca_34, cs_34, ca_35, cs_35, ca_36, cs_36, ca_37, cs_37, ca_38, cs_38, ca_39, cs_39, ca_40, cs_40, ca_41, cs_41, ca_42, cs_42, car_20, car_21, car_22, cq11_3, cq11_4, cq3_1, cq0_0, cq0_1, if_true, if_false, Option.bind_some, cb_e, lt_e, nI_1, hs_nar2, nh4, upd_at, vau_at, ca_42_0, cs_42_0, if_pos (i1.2 c1)]
      · simp -implicitDefEqProofs (disch := first | assumption | omega | decide | exact And.intro (by omega) (by omega)) only [cck_0, cr0_0, cr0_1, cr0_2, cr0_3, cg0_4, cp0_4, cg0_5, cp0_5, cck_1, cg1_0, cp1_0, cr1_1, cr1_2, cr1_3, cg1_4, cp1_4, cg1_5, cp1_5, cr1_6, cr1_7, cck_2, cr2_0, cr2_1, cr2_2, cck_3, cr3_0, cr3_1, cg3_2, cp3_2, cg3_3, cp3_3, cg3_4, cp3_4, cg3_5, cp3_5, cg3_6, cp3_6, cg3_7, cp3_7, cg3_8, cp3_8, cck_4, cg4_0, cp4_0, cg4_1, cp4_1, cr4_2, cr4_3, cr4_4, cr4_5, cck_5, cg5_0, cp5_0, cr5_1, cr5_2, cr5_3, cck_6, cg6_0, cp6_0, cg6_1, cp6_1, cck_7, cg7_0, cp7_0, cg7_1, cp7_1, cr7_2, cr7_3, cr7_4, cr7_5, cr7_6, cr7_7, cr7_8, cck_8, cr8_0, cr8_1, cck_9, cr9_0, cr9_1, cr9_2, cr9_3, cg9_4, cp9_4, cck_10, cg10_0, cp10_0, cr10_1, cr10_2, cr10_3, cr10_4, cg10_5, cp10_5, cr10_6, cr10_7, cr10_8, cg10_9, cp10_9, cg10_10, cp10_10, cr10_11, cr10_12, cr10_13, cr10_14, cck_11, cr11_0, cg11_1, cp11_1, cr11_2, cr11_3, cr11_4, cr11_5, cr11_6, cr11_7, cr11_8, cr11_9, cr11_10, cr11_11, cr11_12, cr11_13, cr11_14, ca_30, cs_30, ca_31, cs_31, ca_32, cs_32, ca_33, cs_33, ca_34, cs_34, ca_35, cs_35, ca_36, cs_36, ca_37, cs_37, ca_38, cs_38, ca_39, cs_39, ca_40, cs_40, ca_41, cs_41, ca_42, cs_42, car_20, car_21, car_22, cq11_3, cq11_4, cq3_1, cq0_0, cq0_1, if_true, if_false, Option.bind_some, cb_e, lt_e, nI_1, hs_nar2, nh4, upd_at, vau_at, ca_42_0, cs_42_0, if_neg (fun q => c1 (i1.1 q)), hr0, cnb, hp, if_neg (fun q => c (by have := i2.1 q; omega))]
    · simp -implicitDefEqProofs (disch := first | assumption | omega | decide | exact And.intro (by omega) (by omega)) only [mck, mg_0, mp_0, mr_1, mg_2, mp_2, mr_3, mg_4, mp_4, mr_5, mr_6, mr_7, mr_8, mr_9, mg_10, mp_10, mg_11, mp_11, mg_12, mp_12, mg_13, mp_13, mg_14, mp_14, mg_15, mp_15, mg_16, mp_16, mg_17, mp_17, mg_18, mp_18, mg_19, mp_19, mg_20, mp_20, mr_21, mr_22, mr_23, mr_24, mr_25, mr_26, mr_27, mr_28, mr_29, mr_30, mr_31, mr_32, mg_33, mp_33, mr_34, mr_35, mr_36, mr_37, mr_38, mg_39, mp_39, mr_40, mr_41, mr_42, mg_43, mp_43, mr_44, mr_45, mg_46, mp_46, mr_47, mr_48, mg_49, mp_49, mg_50, mp_50, mg_51, mp_51, mr_52, mr_53, mr_54, mg_55, mp_55, mr_56, mr_57, mg_58, mp_58, mg_59, mp_59, mg_60, mp_60, mr_61, mg_62, mp_62, mr_63, mr_64, mr_65, mr_66, mr_67, mr_68, ma_1, ms_1, ma_2, ms_2, ma_3, ms_3, ma_4, ms_4, ma_5, ms_5, ma_6, ms_6, ma_7, ms_7, ma_8, ms_8, ma_9, ms_9, ma_10, ms_10, ma_11, ms_11, ma_12, ms_12, ma_13, ms_13, ma_14, ms_14, ma_15, ms_15, ma_16, ms_16, ma_17, ms_17, ma_18, ms_18, ma_19, ms_19, ma_20, ms_20, ma_21, ms_21, ma_22, ms_22, ma_23, ms_23, ma_24, ms_24, ma_25, ms_25, ma_26, ms_26, ma_27, ms_27, ma_28, ms_28, ma_29, ms_29, ma_30, ms_30, ma_31, ms_31, ma_32, ms_32, ma_33, ms_33, ma_34, ms_34, ma_35, ms_35, ma_36, ms_36, ma_37, ms_37, ma_38, ms_38, ma_39, ms_39, ma_40, ms_40, ma_41, ms_41, ma_42, ms_42, ma_43, ms_43, if_true, if_false, Option.bind_some, cb_e, lt_e, nI_1, hs_nar2, nh4, upd_at, vau_at, ma_30_18, ms_30_18, ma_31_18, ms_31_18, ma_28_0, ms_28_0, ma_28_1, ms_28_1, ma_28_2, ms_28_2, ma_28_3, ms_28_3, ma_28_4, ms_28_4, ma_42_0, ms_42_0, ma_42_1, ms_42_1, ma_42_2, ms_42_2, ma_36_0, ms_36_0, h18, mnb, hp, e1, hin, decide_eq_false c, if_pos nb0]
