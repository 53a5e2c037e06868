/-! ===== fractions; alike, needed ===== -/
def fN (a b u l : Nat) : Nat := a * (l / Nat.gcd b l) + u * (b / Nat.gcd b l)
def fD (b l : Nat) : Nat := b * (l / Nat.gcd b l)
/-- a by b and u by l more, as a fraction that cannot be lessened -/
def fA (a b u l : Nat) : Nat × Nat := (fN a b u l / Nat.gcd (fN a b u l) (fD b l), fD b l / Nat.gcd (fN a b u l) (fD b l))
theorem fD_pos {b l : Nat} (hb : 0 < b) (hl : 0 < l) : 0 < fD b l :=
  Nat.mul_pos hb (Nat.div_pos (gcd_lt hl).2 (gcd_lt hl).1)
theorem fD_alt {b l : Nat} : b / Nat.gcd b l * l = fD b l := by
  unfold fD
  rw [Nat.div_mul_right_comm (Nat.gcd_dvd_left b l), Nat.mul_div_assoc _ (Nat.gcd_dvd_right b l)]
theorem two_jN (i : Nat) : (2 : Int64) * jN i = jN (2 * i) := by
  rw [two_jJ]; rfl
theorem c_becomeN {F A : Nat → Nat → Int32} {B : Nat → Nat → Int64} {r : Nat → Nat} {c : Nat} (hc : c_kd c = 6) {x y : Nat} (hx : x < 2 ^ 63) (hy : y < 2 ^ 63) (h0 : 0 < y) : ∃ B', fX6_become c (jN x) (jN y) (mkC F A B r) = some ((), mkC F A B' r) ∧ B' c 0 = jN (x / Nat.gcd x y) ∧ B' c 1 = jN (y / Nat.gcd x y) ∧ ∀ d, ¬ d = c → B' d = B d := by
  obtain ⟨B', z1, z2, z3, z4⟩ := c_become (F := F) (A := A) (B := B) (r := r) hc (x := (x : Int)) (by rw [Int.natAbs_natCast]; exact hx) hy h0
  rw [Int.natAbs_natCast] at z2 z3
  have hg := gcd_lt (x := x) h0
  exact ⟨B', z1, by rw [z2]; exact jN_div hx (by omega), z3, z4⟩
theorem c_add {F A : Nat → Nat → Int32} {B : Nat → Nat → Int64} {r : Nat → Nat} {c : Nat} (hc : c_kd c = 6) {a b u l : Nat} (ha : B c 0 = jN a) (hb : B c 1 = jN b) (hb0 : 0 < b) (hl0 : 0 < l) (hbb : b < 2 ^ 63) (hl : l < 2 ^ 63) (hN : fN a b u l < 2 ^ 63) (hD : fD b l < 2 ^ 63) : ∃ B', fX6_add c (jN u) (jN l) (mkC F A B r) = some ((), mkC F A B' r) ∧ B' c 0 = jN (fA a b u l).1 ∧ B' c 1 = jN (fA a b u l).2 ∧ ∀ d, ¬ d = c → B' d = B d := by
  have hg := gcd_lt (x := b) hl0
  have hg63 : Nat.gcd b l < 2 ^ 63 := by omega
  have n1 : ¬ lg_cmp (jN (Nat.gcd b l)) 0 ≤ 0 := by rw [lg_cmp_le, jN_le0 hg63]; omega
  have n2 : ¬ jN (Nat.gcd b l) = 0 := by rw [jN_0 hg63]; omega
  obtain ⟨B', z1, z2, z3, z4⟩ := c_becomeN (F := F) (A := A) (B := B) (r := r) hc hN hD (fD_pos hb0 hl0)
  refine ⟨B', ?_, z2, z3, z4⟩
  unfold fX6_add
  simp -implicitDefEqProofs (disch := first | assumption | omega | decide | exact And.intro (by omega) (by omega)) only [cck_0, cr0_0, cr0_1, cr0_2, cr0_3, cg0_4, cp0_4, cg0_5, cp0_5, cck_1, cg1_0, cp1_0, cr1_1, cr1_2, cr1_3, cg1_4, cp1_4, cg1_5, cp1_5, cr1_6, cr1_7, cck_2, cr2_0, cr2_1, cr2_2, cck_3, cr3_0, cr3_1, cg3_2, cp3_2, cg3_3, cp3_3, cg3_4, cp3_4, cg3_5, cp3_5, cg3_6, cp3_6, cg3_7, cp3_7, cg3_8, cp3_8, cck_4, cg4_0, cp4_0, cg4_1, cp4_1, cr4_2, cr4_3, cr4_4, cr4_5, cck_5, cg5_0, cp5_0, cr5_1, cr5_2, cr5_3, cck_6, cg6_0, cp6_0, cg6_1, cp6_1, cck_7, cg7_0, cp7_0, cg7_1, cp7_1, cr7_2, cr7_3, cr7_4, cr7_5, cr7_6, cr7_7, cr7_8, cck_8, cr8_0, cr8_1, cck_9, cr9_0, cr9_1, cr9_2, cr9_3, cg9_4, cp9_4, cck_10, cg10_0, cp10_0, cr10_1, cr10_2, cr10_3, cr10_4, cg10_5, cp10_5, cr10_6, cr10_7, cr10_8, cg10_9, cp10_9, cg10_10, cp10_10, cr10_11, cr10_12, cr10_13, cr10_14, cck_11, cr11_0, cg11_1, cp11_1, cr11_2, cr11_3, cr11_4, cr11_5, cr11_6, cr11_7, cr11_8, cr11_9, cr11_10, cr11_11, cr11_12, cr11_13, cr11_14, ca_30, cs_30, ca_31, cs_31, ca_32, cs_32, ca_33, cs_33, ca_34, cs_34, ca_35, cs_35, ca_36, cs_36, ca_37, cs_37, ca_38, cs_38, ca_39, cs_39, ca_40, cs_40, ca_41, cs_41, ca_42, cs_42, car_20, car_21, car_22, cq11_3, cq11_4, cq3_1, cq0_0, cq0_1, if_true, if_false, Option.bind_some, cb_e, lt_e, nI_1, hs_nar2, nh4, upd_at, vau_at, ca_42_0, cs_42_0, ha, hb, c_divisor hbb hl, if_neg n1, if_neg n2, jN_div hl hg63, jN_div hbb hg63, jN_mul, jN_add]
  rw [show a * (l / Nat.gcd b l) + u * (b / Nat.gcd b l) = fN a b u l from rfl, show b * (l / Nat.gcd b l) = fD b l from rfl, z1]
  rfl
theorem m_adds {F : Nat → Int32} {A : Nat → Nat → Int32} {B : Nat → Nat → Int64} {a b u l : Nat} (ha : B 0 58 = jN a) (hb : B 0 59 = jN b) (hb0 : 0 < b) (hl0 : 0 < l) (hbb : b < 2 ^ 63) (hl : l < 2 ^ 63) (hN : fN a b u l < 2 ^ 63) (hD : fD b l < 2 ^ 63) : ∃ B', fX12_adds 0 (jN u) (jN l) (mkM F A B) = some ((), mkM F A B') ∧ B' 0 58 = jN (fA a b u l).1 ∧ B' 0 59 = jN (fA a b u l).2 ∧ ∀ d, ¬ d = 0 → B' d = B d := by
  have hg := gcd_lt (x := b) hl0
  have hg63 : Nat.gcd b l < 2 ^ 63 := by omega
  have n2 : ¬ jN (Nat.gcd b l) = 0 := by rw [jN_0 hg63]; omega
  have hD0 := fD_pos hb0 hl0
  have hg' := gcd_lt (x := fN a b u l) hD0
  have hg63' : Nat.gcd (fN a b u l) (fD b l) < 2 ^ 63 := by omega
  have n3 : ¬ jN (Nat.gcd (fN a b u l) (fD b l)) = 0 := by rw [jN_0 hg63']; omega
  have q1 : ∀ σ, fX12_common (jN b) (jN l) σ = some (jN (Nat.gcd b l), σ) := fun σ => m_common (x := (b : Int)) hbb hl
  have q2 : ∀ σ, fX12_common (jN (fN a b u l)) (jN (fD b l)) σ = some (jN (Nat.gcd (fN a b u l) (fD b l)), σ) := fun σ => m_common (x := (fN a b u l : Int)) hN hD
  have e1 : jN a * jN (l / Nat.gcd b l) + jN u * jN (b / Nat.gcd b l) = jN (fN a b u l) := by rw [jN_mul, jN_mul, jN_add]; rfl
  have e2 : jN (b / Nat.gcd b l) * jN l = jN (fD b l) := by rw [jN_mul, fD_alt]
  unfold fX12_adds
  simp -implicitDefEqProofs (disch := first | assumption | omega | decide | exact And.intro (by omega) (by omega)) only [mck, mg_0, mp_0, mr_1, mg_2, mp_2, mr_3, mg_4, mp_4, mr_5, mr_6, mr_7, mr_8, mr_9, mg_10, mp_10, mg_11, mp_11, mg_12, mp_12, mg_13, mp_13, mg_14, mp_14, mg_15, mp_15, mg_16, mp_16, mg_17, mp_17, mg_18, mp_18, mg_19, mp_19, mg_20, mp_20, mr_21, mr_22, mr_23, mr_24, mr_25, mr_26, mr_27, mr_28, mr_29, mr_30, mr_31, mr_32, mg_33, mp_33, mr_34, mr_35, mr_36, mr_37, mr_38, mg_39, mp_39, mr_40, mr_41, mr_42, mg_43, mp_43, mr_44, mr_45, mg_46, mp_46, mr_47, mr_48, mg_49, mp_49, mg_50, mp_50, mg_51, mp_51, mr_52, mr_53, mr_54, mg_55, mp_55, mr_56, mr_57, mg_58, mp_58, mg_59, mp_59, mg_60, mp_60, mr_61, mg_62, mp_62, mr_63, mr_64, mr_65, mr_66, mr_67, mr_68, ma_1, ms_1, ma_2, ms_2, ma_3, ms_3, ma_4, ms_4, ma_5, ms_5, ma_6, ms_6, ma_7, ms_7, ma_8, ms_8, ma_9, ms_9, ma_10, ms_10, ma_11, ms_11, ma_12, ms_12, ma_13, ms_13, ma_14, ms_14, ma_15, ms_15, ma_16, ms_16, ma_17, ms_17, ma_18, ms_18, ma_19, ms_19, ma_20, ms_20, ma_21, ms_21, ma_22, ms_22, ma_23, ms_23, ma_24, ms_24, ma_25, ms_25, ma_26, ms_26, ma_27, ms_27, ma_28, ms_28, ma_29, ms_29, ma_30, ms_30, ma_31, ms_31, ma_32, ms_32, ma_33, ms_33, ma_34, ms_34, ma_35, ms_35, ma_36, ms_36, ma_37, ms_37, ma_38, ms_38, ma_39, ms_39, ma_40, ms_40, ma_41, ms_41, ma_42, ms_42, ma_43, ms_43, if_true, if_false, Option.bind_some, cb_e, lt_e, nI_1, hs_nar2, nh4, upd_at, vau_at, ma_30_18, ms_30_18, ma_31_18, ms_31_18, ma_28_0, ms_28_0, ma_28_1, ms_28_1, ma_28_2, ms_28_2, ma_28_3, ms_28_3, ma_28_4, ms_28_4, ma_42_0, ms_42_0, ma_42_1, ms_42_1, ma_42_2, ms_42_2, ma_36_0, ms_36_0, ha, hb, q1, if_neg n2, jN_div hl hg63, jN_div hbb hg63, e1, updL_at, updL_ne, e2, q2, if_neg n3, jN_div hN hg63', jN_div hD hg63']
  exact ⟨_, rfl, by rw [vau_at, updL_ne (by decide), updL_at]; rfl, by rw [vau_at, updL_at]; rfl, fun d hd => by rw [vau_ne hd, vau_ne hd, vau_ne hd, vau_ne hd]⟩
def alk : Nat → Nat × Nat
  | 0 => (0, 1)
  | k + 1 => fA (alk k).1 (alk k).2 1 (2 * (k + 1))
theorem alk_b : ∀ k, k < 40 → 0 < (alk k).2 ∧ (alk k).2 < 2 ^ 63 ∧ fN (alk k).1 (alk k).2 1 (2 * (k + 1)) < 2 ^ 63 ∧ fD (alk k).2 (2 * (k + 1)) < 2 ^ 63 := by decide +kernel
theorem m_alikes_go {F : Nat → Int32} {A : Nat → Nat → Int32} {n : Nat} (hn : n ≤ 40) : ∀ k i fuel, i + k = n → k < fuel → ∀ (B : Nat → Nat → Int64), B 0 58 = jN (alk i).1 → B 0 59 = jN (alk i).2 → ∃ B', fX12_alikes_b12 fuel 0 (nI n) (nI (i + 1)) (mkM F A B) = some ((), mkM F A B') ∧ B' 0 58 = jN (alk n).1 ∧ B' 0 59 = jN (alk n).2 ∧ ∀ d, ¬ d = 0 → B' d = B d := by
  intro k
  induction k with
  | zero =>
    intro i fuel h1 h2 B e1 e2
    obtain ⟨fuel, rfl⟩ : ∃ q, fuel = q + 1 := ⟨fuel - 1, by omega⟩
    have hin : i = n := by omega
    subst hin
    rw [fX12_alikes_b12, if_pos (nI_lt (by omega) (by omega))]
    exact ⟨B, rfl, e1, e2, fun _ _ => rfl⟩
  | succ k ih =>
    intro i fuel h1 h2 B e1 e2
    obtain ⟨fuel, rfl⟩ : ∃ q, fuel = q + 1 := ⟨fuel - 1, by omega⟩
    obtain ⟨b1, b2, b3, b4⟩ := alk_b i (by omega)
    obtain ⟨B1, p1, p2, p3, p4⟩ := m_adds (F := F) (A := A) (B := B) (u := 1) (l := 2 * (i + 1)) e1 e2 b1 (by omega) b2 (by omega) b3 b4
    obtain ⟨B2, q1, q2, q3, q4⟩ := ih (i + 1) fuel (by omega) (by omega) B1 p2 p3
    rw [fX12_alikes_b12, if_neg (nI_nlt (by omega) (by omega)), nI_jJ (by omega), two_jN]
    have p1' : fX12_adds 0 (1 : Int64) (jN (2 * (i + 1))) (mkM F A B) = some ((), mkM F A B1) := p1
    simp -implicitDefEqProofs (disch := first | assumption | omega | decide | exact And.intro (by omega) (by omega)) only [mck, mg_0, mp_0, mr_1, mg_2, mp_2, mr_3, mg_4, mp_4, mr_5, mr_6, mr_7, mr_8, mr_9, mg_10, mp_10, mg_11, mp_11, mg_12, mp_12, mg_13, mp_13, mg_14, mp_14, mg_15, mp_15, mg_16, mp_16, mg_17, mp_17, mg_18, mp_18, mg_19, mp_19, mg_20, mp_20, mr_21, mr_22, mr_23, mr_24, mr_25, mr_26, mr_27, mr_28, mr_29, mr_30, mr_31, mr_32, mg_33, mp_33, mr_34, mr_35, mr_36, mr_37, mr_38, mg_39, mp_39, mr_40, mr_41, mr_42, mg_43, mp_43, mr_44, mr_45, mg_46, mp_46, mr_47, mr_48, mg_49, mp_49, mg_50, mp_50, mg_51, mp_51, mr_52, mr_53, mr_54, mg_55, mp_55, mr_56, mr_57, mg_58, mp_58, mg_59, mp_59, mg_60, mp_60, mr_61, mg_62, mp_62, mr_63, mr_64, mr_65, mr_66, mr_67, mr_68, ma_1, ms_1, ma_2, ms_2, ma_3, ms_3, ma_4, ms_4, ma_5, ms_5, ma_6, ms_6, ma_7, ms_7, ma_8, ms_8, ma_9, ms_9, ma_10, ms_10, ma_11, ms_11, ma_12, ms_12, ma_13, ms_13, ma_14, ms_14, ma_15, ms_15, ma_16, ms_16, ma_17, ms_17, ma_18, ms_18, ma_19, ms_19, ma_20, ms_20, ma_21, ms_21, ma_22, ms_22, ma_23, ms_23, ma_24, ms_24, ma_25, ms_25, ma_26, ms_26, ma_27, ms_27, ma_28, ms_28, ma_29, ms_29, ma_30, ms_30, ma_31, ms_31, ma_32, ms_32, ma_33, ms_33, ma_34, ms_34, ma_35, ms_35, ma_36, ms_36, ma_37, ms_37, ma_38, ms_38, ma_39, ms_39, ma_40, ms_40, ma_41, ms_41, ma_42, ms_42, ma_43, ms_43, if_true, if_false, Option.bind_some, cb_e, lt_e, nI_1, hs_nar2, nh4, upd_at, vau_at, ma_30_18, ms_30_18, ma_31_18, ms_31_18, ma_28_0, ms_28_0, ma_28_1, ms_28_1, ma_28_2, ms_28_2, ma_28_3, ms_28_3, ma_28_4, ms_28_4, ma_42_0, ms_42_0, ma_42_1, ms_42_1, ma_42_2, ms_42_2, ma_36_0, ms_36_0, p1']
    exact ⟨B2, q1, q2, q3, fun d hd => by rw [q4 d hd, p4 d hd]⟩
theorem m_alikes {F : Nat → Int32} {A : Nat → Nat → Int32} (B : Nat → Nat → Int64) {n : Nat} (hn : n ≤ 40) : ∃ B', fX12_alikes 0 (nI n) (mkM F A B) = some ((), mkM F A B') ∧ B' 0 58 = jN (alk n).1 ∧ B' 0 59 = jN (alk n).2 ∧ ∀ d, ¬ d = 0 → B' d = B d := by
  obtain ⟨B', q1, q2, q3, q4⟩ := m_alikes_go (F := F) (A := A) hn n 0 FU (by omega) (by unfold FU; omega) (va_up (va_up B 0 (vp_updL (B 0) 58 0)) 0 (vp_updL (vp_updL (B 0) 58 0) 59 1)) (by rw [vau_at, updL_ne (by decide), updL_at]; rfl) (by rw [vau_at, updL_at]; rfl)
  refine ⟨B', ?_, q2, q3, fun d hd => by rw [q4 d hd, vau_ne hd, vau_ne hd]⟩
  unfold fX12_alikes
  simp -implicitDefEqProofs (disch := first | assumption | omega | decide | exact And.intro (by omega) (by omega)) only [mck, mg_0, mp_0, mr_1, mg_2, mp_2, mr_3, mg_4, mp_4, mr_5, mr_6, mr_7, mr_8, mr_9, mg_10, mp_10, mg_11, mp_11, mg_12, mp_12, mg_13, mp_13, mg_14, mp_14, mg_15, mp_15, mg_16, mp_16, mg_17, mp_17, mg_18, mp_18, mg_19, mp_19, mg_20, mp_20, mr_21, mr_22, mr_23, mr_24, mr_25, mr_26, mr_27, mr_28, mr_29, mr_30, mr_31, mr_32, mg_33, mp_33, mr_34, mr_35, mr_36, mr_37, mr_38, mg_39, mp_39, mr_40, mr_41, mr_42, mg_43, mp_43, mr_44, mr_45, mg_46, mp_46, mr_47, mr_48, mg_49, mp_49, mg_50, mp_50, mg_51, mp_51, mr_52, mr_53, mr_54, mg_55, mp_55, mr_56, mr_57, mg_58, mp_58, mg_59, mp_59, mg_60, mp_60, mr_61, mg_62, mp_62, mr_63, mr_64, mr_65, mr_66, mr_67, mr_68, ma_1, ms_1, ma_2, ms_2, ma_3, ms_3, ma_4, ms_4, ma_5, ms_5, ma_6, ms_6, ma_7, ms_7, ma_8, ms_8, ma_9, ms_9, ma_10, ms_10, ma_11, ms_11, ma_12, ms_12, ma_13, ms_13, ma_14, ms_14, ma_15, ms_15, ma_16, ms_16, ma_17, ms_17, ma_18, ms_18, ma_19, ms_19, ma_20, ms_20, ma_21, ms_21, ma_22, ms_22, ma_23, ms_23, ma_24, ms_24, ma_25, ms_25, ma_26, ms_26, ma_27, ms_27, ma_28, ms_28, ma_29, ms_29, ma_30, ms_30, ma_31, ms_31, ma_32, ms_32, ma_33, ms_33, ma_34, ms_34, ma_35, ms_35, ma_36, ms_36, ma_37, ms_37, ma_38, ms_38, ma_39, ms_39, ma_40, ms_40, ma_41, ms_41, ma_42, ms_42, ma_43, ms_43, if_true, if_false, Option.bind_some, cb_e, lt_e, nI_1, hs_nar2, nh4, upd_at, vau_at, ma_30_18, ms_30_18, ma_31_18, ms_31_18, ma_28_0, ms_28_0, ma_28_1, ms_28_1, ma_28_2, ms_28_2, ma_28_3, ms_28_3, ma_28_4, ms_28_4, ma_42_0, ms_42_0, ma_42_1, ms_42_1, ma_42_2, ms_42_2, ma_36_0, ms_36_0]
  exact q1
theorem c_alike_go {F A : Nat → Nat → Int32} {r : Nat → Nat} {n : Nat} (bl : Int32) (hn : n ≤ 40) : ∀ k i fuel, i + k = n → k < fuel → ∀ (B : Nat → Nat → Int64), B 191 0 = jN (alk i).1 → B 191 1 = jN (alk i).2 → ∃ B', fX11_alike_b26 fuel 0 (nI n) bl (nI (i + 1)) (mkC F A B r) = some (if bl = 0 then jN (alk n).1 else jN (alk n).2, mkC F A B' r) ∧ ∀ d, ¬ d = 191 → B' d = B d := by
  intro k
  induction k with
  | zero =>
    intro i fuel h1 h2 B e1 e2
    obtain ⟨fuel, rfl⟩ : ∃ q, fuel = q + 1 := ⟨fuel - 1, by omega⟩
    have hin : i = n := by omega
    subst hin
    rw [fX11_alike_b26, if_pos (nI_lt (by omega) (by omega))]
    refine ⟨B, ?_, fun _ _ => rfl⟩
    unfold fX11_alike_b51 fX6_part
    simp -implicitDefEqProofs (disch := first | assumption | omega | decide | exact And.intro (by omega) (by omega)) only [cck_0, cr0_0, cr0_1, cr0_2, cr0_3, cg0_4, cp0_4, cg0_5, cp0_5, cck_1, cg1_0, cp1_0, cr1_1, cr1_2, cr1_3, cg1_4, cp1_4, cg1_5, cp1_5, cr1_6, cr1_7, cck_2, cr2_0, cr2_1, cr2_2, cck_3, cr3_0, cr3_1, cg3_2, cp3_2, cg3_3, cp3_3, cg3_4, cp3_4, cg3_5, cp3_5, cg3_6, cp3_6, cg3_7, cp3_7, cg3_8, cp3_8, cck_4, cg4_0, cp4_0, cg4_1, cp4_1, cr4_2, cr4_3, cr4_4, cr4_5, cck_5, cg5_0, cp5_0, cr5_1, cr5_2, cr5_3, cck_6, cg6_0, cp6_0, cg6_1, cp6_1, cck_7, cg7_0, cp7_0, cg7_1, cp7_1, cr7_2, cr7_3, cr7_4, cr7_5, cr7_6, cr7_7, cr7_8, cck_8, cr8_0, cr8_1, cck_9, cr9_0, cr9_1, cr9_2, cr9_3, cg9_4, cp9_4, cck_10, cg10_0, cp10_0, cr10_1, cr10_2, cr10_3, cr10_4, cg10_5, cp10_5, cr10_6, cr10_7, cr10_8, cg10_9, cp10_9, cg10_10, cp10_10, cr10_11, cr10_12, cr10_13, cr10_14, cck_11, cr11_0, cg11_1, cp11_1, cr11_2, cr11_3, cr11_4, cr11_5, cr11_6, cr11_7, cr11_8, cr11_9, cr11_10, cr11_11, cr11_12, cr11_13, cr11_14, ca_30, cs_30, ca_31, cs_31, ca_32, cs_32, ca_33, cs_33, ca_34, cs_34, ca_35, cs_35, ca_36, cs_36, ca_37, cs_37, ca_38, cs_38, ca_39, cs_39, ca_40, cs_40, ca_41, cs_41, ca_42, cs_42, car_20, car_21, car_22, cq11_3, cq11_4, cq3_1, cq0_0, cq0_1, if_true, if_false, Option.bind_some, cb_e, lt_e, nI_1, hs_nar2, nh4, upd_at, vau_at, ca_42_0, cs_42_0, e1, e2]
    by_cases c : bl = 0
    · rw [if_pos c, if_pos c]; rfl
    · rw [if_neg c, if_neg c]; rfl
  | succ k ih =>
    intro i fuel h1 h2 B e1 e2
    obtain ⟨fuel, rfl⟩ : ∃ q, fuel = q + 1 := ⟨fuel - 1, by omega⟩
    obtain ⟨b1, b2, b3, b4⟩ := alk_b i (by omega)
    obtain ⟨B1, p1, p2, p3, p4⟩ := c_add (F := F) (A := A) (B := B) (r := r) (c := 191) rfl (u := 1) (l := 2 * (i + 1)) e1 e2 b1 (by omega) b2 (by omega) b3 b4
    obtain ⟨B2, q1, q2⟩ := ih (i + 1) fuel (by omega) (by omega) B1 p2 p3
    rw [fX11_alike_b26, if_neg (nI_nlt (by omega) (by omega)), nI_jJ (by omega), two_jN]
    have p1' : fX6_add 191 (1 : Int64) (jN (2 * (i + 1))) (mkC F A B r) = some ((), mkC F A B1 r) := p1
    simp -implicitDefEqProofs (disch := first | assumption | omega | decide | exact And.intro (by omega) (by omega)) only [cck_0, cr0_0, cr0_1, cr0_2, cr0_3, cg0_4, cp0_4, cg0_5, cp0_5, cck_1, cg1_0, cp1_0, cr1_1, cr1_2, cr1_3, cg1_4, cp1_4, cg1_5, cp1_5, cr1_6, cr1_7, cck_2, cr2_0, cr2_1, cr2_2, cck_3, cr3_0, cr3_1, cg3_2, cp3_2, cg3_3, cp3_3, cg3_4, cp3_4, cg3_5, cp3_5, cg3_6, cp3_6, cg3_7, cp3_7, cg3_8, cp3_8, cck_4, cg4_0, cp4_0, cg4_1, cp4_1, cr4_2, cr4_3, cr4_4, cr4_5, cck_5, cg5_0, cp5_0, cr5_1, cr5_2, cr5_3, cck_6, cg6_0, cp6_0, cg6_1, cp6_1, cck_7, cg7_0, cp7_0, cg7_1, cp7_1, cr7_2, cr7_3, cr7_4, cr7_5, cr7_6, cr7_7, cr7_8, cck_8, cr8_0, cr8_1, cck_9, cr9_0, cr9_1, cr9_2, cr9_3, cg9_4, cp9_4, cck_10, cg10_0, cp10_0, cr10_1, cr10_2, cr10_3, cr10_4, cg10_5, cp10_5, cr10_6, cr10_7, cr10_8, cg10_9, cp10_9, cg10_10, cp10_10, cr10_11, cr10_12, cr10_13, cr10_14, cck_11, cr11_0, cg11_1, cp11_1, cr11_2, cr11_3, cr11_4, cr11_5, cr11_6, cr11_7, cr11_8, cr11_9, cr11_10, cr11_11, cr11_12, cr11_13, cr11_14, ca_30, cs_30, ca_31, cs_31, ca_32, cs_32, ca_33, cs_33, ca_34, cs_34, ca_35, cs_35, ca_36, cs_36, ca_37, cs_37, ca_38, cs_38, ca_39, cs_39, ca_40, cs_40, ca_41, cs_41, ca_42, cs_42, car_20, car_21, car_22, cq11_3, cq11_4, cq3_1, cq0_0, cq0_1, if_true, if_false, Option.bind_some, cb_e, lt_e, nI_1, hs_nar2, nh4, upd_at, vau_at, ca_42_0, cs_42_0, p1']
    exact ⟨B2, q1, fun d hd => by rw [q2 d hd, p4 d hd]⟩
theorem c_zero {F A : Nat → Nat → Int32} (B : Nat → Nat → Int64) {r : Nat → Nat} {c : Nat} (hc : c_kd c = 6) : ∃ B', fX6_become c (0 : Int64) (1 : Int64) (mkC F A B r) = some ((), mkC F A B' r) ∧ B' c 0 = jN 0 ∧ B' c 1 = jN 1 ∧ ∀ d, ¬ d = c → B' d = B d := by
  obtain ⟨B', z1, z2, z3, z4⟩ := c_becomeN (F := F) (A := A) (B := B) (r := r) hc (x := 0) (y := 1) (by decide) (by decide) (by decide)
  exact ⟨B', z1, z2, z3, z4⟩
theorem ag_alike : Ag_IB Rel fX11_alike fX12_alike := by
  intro σc σm a bl hbl hR
  obtain ⟨F, A, B, Fc, Ac, Bc, rc, t, lv, T, u, w, ps, n7, sp, rfl, rfl, hT, hC⟩ := id hR
  obtain ⟨x, hx, rfl⟩ := iI_of a
  have hin := m_in (x := x) (a := 1) (b := 40) hx ⟨by decide, by decide⟩ ⟨by decide, by decide⟩ (mkM F A B)
  have hin' : fX12_in (iI x) (1 : Int32) (40 : Int32) (mkM F A B) = some (b2 (decide (1 ≤ x ∧ x ≤ 40)), mkM F A B) := hin
  have i1 : iI x < (1 : Int32) ↔ x < 1 := iI_lt (b := 1) hx ⟨by decide, by decide⟩
  have i2 : iI x ≤ (40 : Int32) ↔ x ≤ 40 := iI_le (b := 40) hx ⟨by decide, by decide⟩
  unfold fX11_alike fX12_alike
  rw [cck_11 rfl, mck, hin']
  simp -implicitDefEqProofs only [cb_e, Option.bind_some]
  by_cases c : 1 ≤ x ∧ x ≤ 40
  · obtain ⟨n, rfl⟩ : ∃ n : Nat, x = (n : Int) := ⟨x.toNat, by omega⟩
    have e3 : iI (n : Int) = nI n := rfl
    rw [if_neg (fun q => by have := i1.1 q; omega), if_pos (i2.2 c.2), decide_eq_true c, if_neg (show ¬ b2 true = 0 by decide), e3]
    obtain ⟨B1, p1, p2, p3, p4⟩ := m_alikes (F := F) (A := A) B (n := n) (by omega)
    obtain ⟨Bc1, q1, q2, q3, q4⟩ := c_zero (F := Fc) (A := Ac) Bc (r := rc) (c := 191) rfl
    obtain ⟨Bc2, s1, s2⟩ := c_alike_go (F := Fc) (A := Ac) (r := rc) bl (n := n) (by omega) n 0 FU (by omega) (by unfold FU; omega) Bc1 q2 q3
    refine ⟨if bl = 0 then jN (alk n).1 else jN (alk n).2, mkC Fc Ac Bc2 rc, mkM F A B1, ?_, ?_, rel_ratio hT hC ⟨fun _ _ => rfl, fun _ _ => rfl, p4⟩ ⟨fun _ _ => rfl, fun d hd => by rw [s2 d (by omega), q4 d (by omega)]⟩⟩
    · simp -implicitDefEqProofs (disch := first | assumption | omega | decide | exact And.intro (by omega) (by omega)) only [cck_0, cr0_0, cr0_1, cr0_2, cr0_3, cg0_4, cp0_4, cg0_5, cp0_5, cck_1, cg1_0, cp1_0, cr1_1, cr1_2, cr1_3, cg1_4, cp1_4, cg1_5, cp1_5, cr1_6, cr1_7, cck_2, cr2_0, cr2_1, cr2_2, cck_3, cr3_0, cr3_1, cg3_2, cp3_2, cg3_3, cp3_3, cg3_4, cp3_4, cg3_5, cp3_5, cg3_6, cp3_6, cg3_7, cp3_7, cg3_8, cp3_8, cck_4, cg4_0, cp4_0, cg4_1, cp4_1, cr4_2, cr4_3, cr4_4, cr4_5, cck_5, cg5_0, cp5_0, cr5_1, cr5_2, cr5_3, cck_6, cg6_0, cp6_0, cg6_1, cp6_1, cck_7, cg7_0, cp7_0, cg7_1, cp7_1, cr7_2, cr7_3, cr7_4, cr7_5, cr7_6, cr7_7, cr7_8, cck_8, cr8_0, cr8_1, cck_9, cr9_0, cr9_1, cr9_2, cr9_3, cg9_4, cp9_4, cck_10, cg10_0, cp10_0, cr10_1, cr10_2, cr10_3, cr10_4, cg10_5, cp10_5, cr10_6, cr10_7, cr10_8, cg10_9, cp10_9, cg10_10, cp10_10, cr10_11, cr10_12, cr10_13, cr10_14, cck_11, cr11_0, cg11_1, cp11_1, cr11_2, cr11_3, cr11_4, cr11_5, cr11_6, cr11_7, cr11_8, cr11_9, cr11_10, cr11_11, cr11_12, cr11_13, cr11_14, ca_30, cs_30, ca_31, cs_31, ca_32, cs_32, ca_33, cs_33, ca_34, cs_34, ca_35, cs_35, ca_36, cs_36, ca_37, cs_37, ca_38, cs_38, ca_39, cs_39, ca_40, cs_40, ca_41, cs_41, ca_42, cs_42, car_20, car_21, car_22, cq11_3, cq11_4, cq3_1, cq0_0, cq0_1, if_true, if_false, Option.bind_some, cb_e, lt_e, nI_1, hs_nar2, nh4, upd_at, vau_at, ca_42_0, cs_42_0, q1]
      exact s1
    · simp -implicitDefEqProofs (disch := first | assumption | omega | decide | exact And.intro (by omega) (by omega)) only [mck, mg_0, mp_0, mr_1, mg_2, mp_2, mr_3, mg_4, mp_4, mr_5, mr_6, mr_7, mr_8, mr_9, mg_10, mp_10, mg_11, mp_11, mg_12, mp_12, mg_13, mp_13, mg_14, mp_14, mg_15, mp_15, mg_16, mp_16, mg_17, mp_17, mg_18, mp_18, mg_19, mp_19, mg_20, mp_20, mr_21, mr_22, mr_23, mr_24, mr_25, mr_26, mr_27, mr_28, mr_29, mr_30, mr_31, mr_32, mg_33, mp_33, mr_34, mr_35, mr_36, mr_37, mr_38, mg_39, mp_39, mr_40, mr_41, mr_42, mg_43, mp_43, mr_44, mr_45, mg_46, mp_46, mr_47, mr_48, mg_49, mp_49, mg_50, mp_50, mg_51, mp_51, mr_52, mr_53, mr_54, mg_55, mp_55, mr_56, mr_57, mg_58, mp_58, mg_59, mp_59, mg_60, mp_60, mr_61, mg_62, mp_62, mr_63, mr_64, mr_65, mr_66, mr_67, mr_68, ma_1, ms_1, ma_2, ms_2, ma_3, ms_3, ma_4, ms_4, ma_5, ms_5, ma_6, ms_6, ma_7, ms_7, ma_8, ms_8, ma_9, ms_9, ma_10, ms_10, ma_11, ms_11, ma_12, ms_12, ma_13, ms_13, ma_14, ms_14, ma_15, ms_15, ma_16, ms_16, ma_17, ms_17, ma_18, ms_18, ma_19, ms_19, ma_20, ms_20, ma_21, ms_21, ma_22, ms_22, ma_23, ms_23, ma_24, ms_24, ma_25, ms_25, ma_26, ms_26, ma_27, ms_27, ma_28, ms_28, ma_29, ms_29, ma_30, ms_30, ma_31, ms_31, ma_32, ms_32, ma_33, ms_33, ma_34, ms_34, ma_35, ms_35, ma_36, ms_36, ma_37, ms_37, ma_38, ms_38, ma_39, ms_39, ma_40, ms_40, ma_41, ms_41, ma_42, ms_42, ma_43, ms_43, if_true, if_false, Option.bind_some, cb_e, lt_e, nI_1, hs_nar2, nh4, upd_at, vau_at, ma_30_18, ms_30_18, ma_31_18, ms_31_18, ma_28_0, ms_28_0, ma_28_1, ms_28_1, ma_28_2, ms_28_2, ma_28_3, ms_28_3, ma_28_4, ms_28_4, ma_42_0, ms_42_0, ma_42_1, ms_42_1, ma_42_2, ms_42_2, ma_36_0, ms_36_0, p1, p2, p3]
      by_cases cb0 : bl = 0
      · rw [if_pos cb0, if_pos cb0]
      · rw [if_neg cb0, if_neg cb0]
  · rw [decide_eq_false c, if_pos (show b2 false = 0 by decide)]
    refine ⟨-1, mkC Fc Ac Bc rc, mkM F A B, ?_, rfl, hR⟩
    by_cases c1 : x < 1
    · rw [if_pos (i1.2 c1)]
    · rw [if_neg (fun q => c1 (i1.1 q)), if_neg (fun q => c ⟨by omega, i2.1 q⟩)]
theorem needed_go {F : Nat → Int32} {A : Nat → Nat → Int32} {Fc Ac : Nat → Nat → Int32} {rc : Nat → Nat} (a b : Int32) : ∀ k i fuel fuel', i + k = 40 → k < fuel → k < fuel' → ∀ (B Bc : Nat → Nat → Int64), Bc 191 0 = jN (alk i).1 → Bc 191 1 = jN (alk i).2 → ∃ v B' Bc', fX11_needed_b34 fuel 0 a b (nI (i + 1)) (mkC Fc Ac Bc rc) = some (v, mkC Fc Ac Bc' rc) ∧ fX12_needed_b24 fuel' 0 a b (nI (i + 1)) (mkM F A B) = some (v, mkM F A B') ∧ (∀ d, ¬ d = 0 → B' d = B d) ∧ ∀ d, ¬ d = 191 → Bc' d = Bc d := by
  intro k
  induction k with
  | zero =>
    intro i fuel fuel' h1 h2 h3 B Bc e1 e2
    obtain ⟨fuel, rfl⟩ : ∃ q, fuel = q + 1 := ⟨fuel - 1, by omega⟩
    obtain ⟨fuel', rfl⟩ : ∃ q, fuel' = q + 1 := ⟨fuel' - 1, by omega⟩
    have hin : i = 40 := by omega
    subst hin
    rw [fX11_needed_b34, fX12_needed_b24, if_pos (by decide), if_pos (by decide)]
    exact ⟨_, B, Bc, rfl, rfl, fun _ _ => rfl, fun _ _ => rfl⟩
  | succ k ih =>
    intro i fuel fuel' h1 h2 h3 B Bc e1 e2
    obtain ⟨fuel, rfl⟩ : ∃ q, fuel = q + 1 := ⟨fuel - 1, by omega⟩
    obtain ⟨fuel', rfl⟩ : ∃ q, fuel' = q + 1 := ⟨fuel' - 1, by omega⟩
    obtain ⟨b1, b2, b3, b4⟩ := alk_b i (by omega)
    obtain ⟨B1, p1, p2, p3, p4⟩ := m_alikes (F := F) (A := A) B (n := i + 1) (by omega)
    obtain ⟨Bc1, q1, q2, q3, q4⟩ := c_add (F := Fc) (A := Ac) (B := Bc) (r := rc) (c := 191) rfl (u := 1) (l := 2 * (i + 1)) e1 e2 b1 (by omega) b2 (by omega) b3 b4
    have q1' : fX6_add 191 (1 : Int64) (jN (2 * (i + 1))) (mkC Fc Ac Bc rc) = some ((), mkC Fc Ac Bc1 rc) := q1
    have q2' : Bc1 191 0 = jN (alk (i + 1)).1 := q2
    have q3' : Bc1 191 1 = jN (alk (i + 1)).2 := q3
    have n40 : ¬ (40 : Int32) < nI (i + 1) := nI_nlt (b := i + 1) (a := 40) (by omega) (by decide)
    rw [fX11_needed_b34, fX12_needed_b24, if_neg n40, if_neg n40, nI_jJ (n := i + 1) (by omega), two_jN]
    obtain ⟨v, B2, Bc2, g1, g2, g3, g4⟩ := ih (i + 1) fuel fuel' (by omega) (by omega) (by omega) B1 Bc1 q2' q3'
    by_cases c : lg_cmp (jN (alk (i + 1)).1 * b.toInt64) (a.toInt64 * jN (alk (i + 1)).2) < 0
    · refine ⟨v, B2, Bc2, ?_, ?_, fun d hd => by rw [g3 d hd, p4 d hd], fun d hd => by rw [g4 d hd, q4 d hd]⟩
      · simp -implicitDefEqProofs (disch := first | assumption | omega | decide | exact And.intro (by omega) (by omega)) only [cck_0, cr0_0, cr0_1, cr0_2, cr0_3, cg0_4, cp0_4, cg0_5, cp0_5, cck_1, cg1_0, cp1_0, cr1_1, cr1_2, cr1_3, cg1_4, cp1_4, cg1_5, cp1_5, cr1_6, cr1_7, cck_2, cr2_0, cr2_1, cr2_2, cck_3, cr3_0, cr3_1, cg3_2, cp3_2, cg3_3, cp3_3, cg3_4, cp3_4, cg3_5, cp3_5, cg3_6, cp3_6, cg3_7, cp3_7, cg3_8, cp3_8, cck_4, cg4_0, cp4_0, cg4_1, cp4_1, cr4_2, cr4_3, cr4_4, cr4_5, cck_5, cg5_0, cp5_0, cr5_1, cr5_2, cr5_3, cck_6, cg6_0, cp6_0, cg6_1, cp6_1, cck_7, cg7_0, cp7_0, cg7_1, cp7_1, cr7_2, cr7_3, cr7_4, cr7_5, cr7_6, cr7_7, cr7_8, cck_8, cr8_0, cr8_1, cck_9, cr9_0, cr9_1, cr9_2, cr9_3, cg9_4, cp9_4, cck_10, cg10_0, cp10_0, cr10_1, cr10_2, cr10_3, cr10_4, cg10_5, cp10_5, cr10_6, cr10_7, cr10_8, cg10_9, cp10_9, cg10_10, cp10_10, cr10_11, cr10_12, cr10_13, cr10_14, cck_11, cr11_0, cg11_1, cp11_1, cr11_2, cr11_3, cr11_4, cr11_5, cr11_6, cr11_7, cr11_8, cr11_9, cr11_10, cr11_11, cr11_12, cr11_13, cr11_14, ca_30, cs_30, ca_31, cs_31, ca_32, cs_32, ca_33, cs_33, ca_34, cs_34, ca_35, cs_35, ca_36, cs_36, ca_37, cs_37, ca_38, cs_38, ca_39, cs_39, ca_40, cs_40, ca_41, cs_41, ca_42, cs_42, car_20, car_21, car_22, cq11_3, cq11_4, cq3_1, cq0_0, cq0_1, if_true, if_false, Option.bind_some, cb_e, lt_e, nI_1, hs_nar2, nh4, upd_at, vau_at, ca_42_0, cs_42_0, q1', q2', q3', if_pos c]
        exact g1
      · simp -implicitDefEqProofs (disch := first | assumption | omega | decide | exact And.intro (by omega) (by omega)) only [mck, mg_0, mp_0, mr_1, mg_2, mp_2, mr_3, mg_4, mp_4, mr_5, mr_6, mr_7, mr_8, mr_9, mg_10, mp_10, mg_11, mp_11, mg_12, mp_12, mg_13, mp_13, mg_14, mp_14, mg_15, mp_15, mg_16, mp_16, mg_17, mp_17, mg_18, mp_18, mg_19, mp_19, mg_20, mp_20, mr_21, mr_22, mr_23, mr_24, mr_25, mr_26, mr_27, mr_28, mr_29, mr_30, mr_31, mr_32, mg_33, mp_33, mr_34, mr_35, mr_36, mr_37, mr_38, mg_39, mp_39, mr_40, mr_41, mr_42, mg_43, mp_43, mr_44, mr_45, mg_46, mp_46, mr_47, mr_48, mg_49, mp_49, mg_50, mp_50, mg_51, mp_51, mr_52, mr_53, mr_54, mg_55, mp_55, mr_56, mr_57, mg_58, mp_58, mg_59, mp_59, mg_60, mp_60, mr_61, mg_62, mp_62, mr_63, mr_64, mr_65, mr_66, mr_67, mr_68, ma_1, ms_1, ma_2, ms_2, ma_3, ms_3, ma_4, ms_4, ma_5, ms_5, ma_6, ms_6, ma_7, ms_7, ma_8, ms_8, ma_9, ms_9, ma_10, ms_10, ma_11, ms_11, ma_12, ms_12, ma_13, ms_13, ma_14, ms_14, ma_15, ms_15, ma_16, ms_16, ma_17, ms_17, ma_18, ms_18, ma_19, ms_19, ma_20, ms_20, ma_21, ms_21, ma_22, ms_22, ma_23, ms_23, ma_24, ms_24, ma_25, ms_25, ma_26, ms_26, ma_27, ms_27, ma_28, ms_28, ma_29, ms_29, ma_30, ms_30, ma_31, ms_31, ma_32, ms_32, ma_33, ms_33, ma_34, ms_34, ma_35, ms_35, ma_36, ms_36, ma_37, ms_37, ma_38, ms_38, ma_39, ms_39, ma_40, ms_40, ma_41, ms_41, ma_42, ms_42, ma_43, ms_43, if_true, if_false, Option.bind_some, cb_e, lt_e, nI_1, hs_nar2, nh4, upd_at, vau_at, ma_30_18, ms_30_18, ma_31_18, ms_31_18, ma_28_0, ms_28_0, ma_28_1, ms_28_1, ma_28_2, ms_28_2, ma_28_3, ms_28_3, ma_28_4, ms_28_4, ma_42_0, ms_42_0, ma_42_1, ms_42_1, ma_42_2, ms_42_2, ma_36_0, ms_36_0, p1, p2, p3, if_pos c]
        exact g2
    · refine ⟨nI (i + 1), B1, Bc1, ?_, ?_, p4, q4⟩
      · simp -implicitDefEqProofs (disch := first | assumption | omega | decide | exact And.intro (by omega) (by omega)) only [cck_0, cr0_0, cr0_1, cr0_2, cr0_3, cg0_4, cp0_4, cg0_5, cp0_5, cck_1, cg1_0, cp1_0, cr1_1, cr1_2, cr1_3, cg1_4, cp1_4, cg1_5, cp1_5, cr1_6, cr1_7, cck_2, cr2_0, cr2_1, cr2_2, cck_3, cr3_0, cr3_1, cg3_2, cp3_2, cg3_3, cp3_3, cg3_4, cp3_4, cg3_5, cp3_5, cg3_6, cp3_6, cg3_7, cp3_7, cg3_8, cp3_8, cck_4, cg4_0, cp4_0, cg4_1, cp4_1, cr4_2, cr4_3, cr4_4, cr4_5, cck_5, cg5_0, cp5_0, cr5_1, cr5_2, cr5_3, cck_6, cg6_0, cp6_0, cg6_1, cp6_1, cck_7, cg7_0, cp7_0, cg7_1, cp7_1, cr7_2, cr7_3, cr7_4, cr7_5, cr7_6, cr7_7, cr7_8, cck_8, cr8_0, cr8_1, cck_9, cr9_0, cr9_1, cr9_2, cr9_3, cg9_4, cp9_4, cck_10, cg10_0, cp10_0, cr10_1, cr10_2, cr10_3, cr10_4, cg10_5, cp10_5, cr10_6, cr10_7, cr10_8, cg10_9, cp10_9, cg10_10, cp10_10, cr10_11, cr10_12, cr10_13, cr10_14, cck_11, cr11_0, cg11_1, cp11_1, cr11_2, cr11_3, cr11_4, cr11_5, cr11_6, cr11_7, cr11_8, cr11_9, cr11_10, cr11_11, cr11_12, cr11_13, cr11_14, ca_30, cs_30, ca_31, cs_31, ca_32, cs_32, ca_33, cs_33, ca_34, cs_34, ca_35, cs_35, ca_36, cs_36, ca_37, cs_37, ca_38, cs_38, ca_39, cs_39, ca_40, cs_40, ca_41, cs_41, ca_42, cs_42, car_20, car_21, car_22, cq11_3, cq11_4, cq3_1, cq0_0, cq0_1, if_true, if_false, Option.bind_some, cb_e, lt_e, nI_1, hs_nar2, nh4, upd_at, vau_at, ca_42_0, cs_42_0, q1', q2', q3', if_neg c]
      · simp -implicitDefEqProofs (disch := first | assumption | omega | decide | exact And.intro (by omega) (by omega)) only [mck, mg_0, mp_0, mr_1, mg_2, mp_2, mr_3, mg_4, mp_4, mr_5, mr_6, mr_7, mr_8, mr_9, mg_10, mp_10, mg_11, mp_11, mg_12, mp_12, mg_13, mp_13, mg_14, mp_14, mg_15, mp_15, mg_16, mp_16, mg_17, mp_17, mg_18, mp_18, mg_19, mp_19, mg_20, mp_20, mr_21, mr_22, mr_23, mr_24, mr_25, mr_26, mr_27, mr_28, mr_29, mr_30, mr_31, mr_32, mg_33, mp_33, mr_34, mr_35, mr_36, mr_37, mr_38, mg_39, mp_39, mr_40, mr_41, mr_42, mg_43, mp_43, mr_44, mr_45, mg_46, mp_46, mr_47, mr_48, mg_49, mp_49, mg_50, mp_50, mg_51, mp_51, mr_52, mr_53, mr_54, mg_55, mp_55, mr_56, mr_57, mg_58, mp_58, mg_59, mp_59, mg_60, mp_60, mr_61, mg_62, mp_62, mr_63, mr_64, mr_65, mr_66, mr_67, mr_68, ma_1, ms_1, ma_2, ms_2, ma_3, ms_3, ma_4, ms_4, ma_5, ms_5, ma_6, ms_6, ma_7, ms_7, ma_8, ms_8, ma_9, ms_9, ma_10, ms_10, ma_11, ms_11, ma_12, ms_12, ma_13, ms_13, ma_14, ms_14, ma_15, ms_15, ma_16, ms_16, ma_17, ms_17, ma_18, ms_18, ma_19, ms_19, ma_20, ms_20, ma_21, ms_21, ma_22, ms_22, ma_23, ms_23, ma_24, ms_24, ma_25, ms_25, ma_26, ms_26, ma_27, ms_27, ma_28, ms_28, ma_29, ms_29, ma_30, ms_30, ma_31, ms_31, ma_32, ms_32, ma_33, ms_33, ma_34, ms_34, ma_35, ms_35, ma_36, ms_36, ma_37, ms_37, ma_38, ms_38, ma_39, ms_39, ma_40, ms_40, ma_41, ms_41, ma_42, ms_42, ma_43, ms_43, if_true, if_false, Option.bind_some, cb_e, lt_e, nI_1, hs_nar2, nh4, upd_at, vau_at, ma_30_18, ms_30_18, ma_31_18, ms_31_18, ma_28_0, ms_28_0, ma_28_1, ms_28_1, ma_28_2, ms_28_2, ma_28_3, ms_28_3, ma_28_4, ms_28_4, ma_42_0, ms_42_0, ma_42_1, ms_42_1, ma_42_2, ms_42_2, ma_36_0, ms_36_0, p1, p2, p3, if_neg c]
theorem ag_needed : Ag_II Rel fX11_needed fX12_needed := by
  intro σc σm a b hR
  obtain ⟨F, A, B, Fc, Ac, Bc, rc, t, lv, T, u, w, ps, n7, sp, rfl, rfl, hT, hC⟩ := id hR
  obtain ⟨x, hx, rfl⟩ := iI_of a
  obtain ⟨y, hy, rfl⟩ := iI_of b
  have hin1 : fX12_in (iI x) (0 : Int32) (99 : Int32) (mkM F A B) = some (b2 (decide (0 ≤ x ∧ x ≤ 99)), mkM F A B) := m_in (x := x) (a := 0) (b := 99) hx ⟨by decide, by decide⟩ ⟨by decide, by decide⟩ (mkM F A B)
  have hin2 : fX12_in (iI y) (1 : Int32) (99 : Int32) (mkM F A B) = some (b2 (decide (1 ≤ y ∧ y ≤ 99)), mkM F A B) := m_in (x := y) (a := 1) (b := 99) hy ⟨by decide, by decide⟩ ⟨by decide, by decide⟩ (mkM F A B)
  have i1 : iI x < (0 : Int32) ↔ x < 0 := iI_lt (b := 0) hx ⟨by decide, by decide⟩
  have i2 : (99 : Int32) < iI x ↔ 99 < x := iI_lt (a := 99) ⟨by decide, by decide⟩ hx
  have i3 : iI y < (1 : Int32) ↔ y < 1 := iI_lt (b := 1) hy ⟨by decide, by decide⟩
  have i4 : iI y ≤ (99 : Int32) ↔ y ≤ 99 := iI_le (b := 99) hy ⟨by decide, by decide⟩
  unfold fX11_needed fX12_needed
  rw [cck_11 rfl, mck, hin1]
  simp -implicitDefEqProofs only [cb_e, Option.bind_some]
  by_cases c1 : 0 ≤ x ∧ x ≤ 99
  · rw [if_neg (fun q => by have := i1.1 q; omega), if_neg (fun q => by have := i2.1 q; omega), decide_eq_true c1, if_neg (show ¬ b2 true = 0 by decide), hin2]
    simp -implicitDefEqProofs only [Option.bind_some]
    by_cases c2 : 1 ≤ y ∧ y ≤ 99
    · rw [if_neg (fun q => by have := i3.1 q; omega), if_pos (i4.2 c2.2), decide_eq_true c2, if_neg (show ¬ b2 true = 0 by decide)]
      obtain ⟨Bc1, q1, q2, q3, q4⟩ := c_zero (F := Fc) (A := Ac) Bc (r := rc) (c := 191) rfl
      obtain ⟨v, B2, Bc2, g1, g2, g3, g4⟩ := needed_go (F := F) (A := A) (Fc := Fc) (Ac := Ac) (rc := rc) (iI x) (iI y) 40 0 FU FU (by omega) (by decide) (by decide) B Bc1 q2 q3
      refine ⟨v, mkC Fc Ac Bc2 rc, mkM F A B2, ?_, g2, rel_ratio hT hC ⟨fun _ _ => rfl, fun _ _ => rfl, g3⟩ ⟨fun _ _ => rfl, fun d hd => by rw [g4 d (by omega), q4 d (by omega)]⟩⟩
      simp -implicitDefEqProofs (disch := first | assumption | omega | decide | exact And.intro (by omega) (by omega)) only [cck_0, cr0_0, cr0_1, cr0_2, cr0_3, cg0_4, cp0_4, cg0_5, cp0_5, cck_1, cg1_0, cp1_0, cr1_1, cr1_2, cr1_3, cg1_4, cp1_4, cg1_5, cp1_5, cr1_6, cr1_7, cck_2, cr2_0, cr2_1, cr2_2, cck_3, cr3_0, cr3_1, cg3_2, cp3_2, cg3_3, cp3_3, cg3_4, cp3_4, cg3_5, cp3_5, cg3_6, cp3_6, cg3_7, cp3_7, cg3_8, cp3_8, cck_4, cg4_0, cp4_0, cg4_1, cp4_1, cr4_2, cr4_3, cr4_4, cr4_5, cck_5, cg5_0, cp5_0, cr5_1, cr5_2, cr5_3, cck_6, cg6_0, cp6_0, cg6_1, cp6_1, cck_7, cg7_0, cp7_0, cg7_1, cp7_1, cr7_2, cr7_3, cr7_4, cr7_5, cr7_6, cr7_7, cr7_8, cck_8, cr8_0, cr8_1, cck_9, cr9_0, cr9_1, cr9_2, cr9_3, cg9_4, cp9_4, cck_10, cg10_0, cp10_0, cr10_1, cr10_2, cr10_3, cr10_4, cg10_5, cp10_5, cr10_6, cr10_7, cr10_8, cg10_9, cp10_9, cg10_10, cp10_10, cr10_11, cr10_12, cr10_13, cr10_14, cck_11, cr11_0, cg11_1, cp11_1, cr11_2, cr11_3, cr11_4, cr11_5, cr11_6, cr11_7, cr11_8, cr11_9, cr11_10, cr11_11, cr11_12, cr11_13, cr11_14, ca_30, cs_30, ca_31, cs_31, ca_32, cs_32, ca_33, cs_33, ca_34, cs_34, ca_35, cs_35, ca_36, cs_36, ca_37, cs_37, ca_38, cs_38, ca_39, cs_39, ca_40, cs_40, ca_41, cs_41, ca_42, cs_42, car_20, car_21, car_22, cq11_3, cq11_4, cq3_1, cq0_0, cq0_1, if_true, if_false, Option.bind_some, cb_e, lt_e, nI_1, hs_nar2, nh4, upd_at, vau_at, ca_42_0, cs_42_0, q1]
      exact g1
    · rw [decide_eq_false c2, if_pos (show b2 false = 0 by decide)]
      refine ⟨-1, mkC Fc Ac Bc rc, mkM F A B, ?_, rfl, hR⟩
      by_cases c3 : y < 1
      · rw [if_pos (i3.2 c3)]
      · rw [if_neg (fun q => c3 (i3.1 q)), if_neg (fun q => c2 ⟨by omega, i4.1 q⟩)]
  · rw [decide_eq_false c1, if_pos (show b2 false = 0 by decide)]
    refine ⟨-1, mkC Fc Ac Bc rc, mkM F A B, ?_, rfl, hR⟩
    by_cases c3 : x < 0
    · rw [if_pos (i1.2 c3)]
    · rw [if_neg (fun q => c3 (i1.1 q)), if_pos (i2.2 (by omega))]
