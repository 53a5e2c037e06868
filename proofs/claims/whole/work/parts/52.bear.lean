/-! ===== bears, holds: the class narrows ===== -/
theorem b32 {x : Int} (h : -2000000000 ≤ x ∧ x ≤ 2000000000) : in32 x := ⟨by omega, by omega⟩
theorem ediv_bb {x y : Int} (hx : -2000000000 ≤ x ∧ x ≤ 2000000000) (h0 : 0 < y) : -2000000000 ≤ x / y ∧ x / y ≤ 2000000000 := by
  refine ⟨(Int.le_ediv_iff_mul_le h0).2 (by omega), ?_⟩
  have : x / y < 2000000001 := (Int.ediv_lt_iff_lt_mul h0).2 (by omega)
  omega
theorem tdiv_bb {x y : Int} (hx : -2000000000 ≤ x ∧ x ≤ 2000000000) (h0 : 0 < y) : in32 (x.tdiv y) := by
  have h := ediv_bb hx h0
  rw [Int.tdiv_eq_ediv]
  have hs : y.sign = 1 := Int.sign_eq_one_of_pos h0
  rw [hs]
  split <;> constructor <;> omega
theorem iI_tdiv {x y : Int} (hx : -2000000000 ≤ x ∧ x ≤ 2000000000) (hy : in32 y) (h0 : 0 < y) : iI x / iI y = iI (x.tdiv y) := by
  have hne : iI y ≠ -1 := fun q => by
    have h1 := congrArg Int32.toInt q
    rw [iI_toInt hy] at h1
    have e : (-1 : Int32).toInt = -1 := by decide
    omega
  rw [← Int32.toInt_inj, Int32.toInt_div_of_ne_right _ _ hne, iI_toInt (b32 hx), iI_toInt hy, iI_toInt (tdiv_bb hx h0)]
theorem xor_sgn {x y : Int} (hx : in32 x) (hy : in32 y) (h0 : 0 < y) : (0 ≤ (iI x ^^^ iI y)) ↔ 0 ≤ x := by
  have m : (iI x ^^^ iI y).toBitVec.msb = ((iI x).toBitVec.msb ^^ (iI y).toBitVec.msb) := BitVec.msb_xor
  rw [BitVec.msb_eq_toInt, BitVec.msb_eq_toInt, BitVec.msb_eq_toInt] at m
  have e1 : (iI x).toBitVec.toInt = x := iI_toInt hx
  have e2 : (iI y).toBitVec.toInt = y := iI_toInt hy
  rw [e1, e2, decide_eq_false (show ¬ y < 0 by omega), Bool.xor_false] at m
  have m2 := decide_eq_decide.1 m
  rw [Int32.le_iff_toInt_le]
  have e3 : (0 : Int32).toInt = 0 := by decide
  have e4 : (iI x ^^^ iI y).toInt = (iI x ^^^ iI y).toBitVec.toInt := rfl
  rw [e3, e4]
  omega
theorem c_floorDiv {x y : Int} {σ : Sto} (hx : -2000000000 ≤ x ∧ x ≤ 2000000000) (hy : y ≤ 2000000000) (h0 : 0 < y) : fJ9_floorDiv_7cf53 (iI x) (iI y) σ = some (iI (x / y), σ) := by
  have hy2 : in32 y := ⟨by omega, by omega⟩
  have n0 : ¬ iI y = 0 := fun q => by
    have := (iI_eq (b := 0) hy2 ⟨by decide, by decide⟩).1 q
    omega
  unfold fJ9_floorDiv_7cf53
  rw [if_neg n0, lt_e, iI_tdiv hx hy2 h0]
  by_cases c : 0 ≤ x
  · rw [if_pos ((xor_sgn (b32 hx) hy2 h0).2 c), Int.tdiv_eq_ediv_of_nonneg c]
  · rw [if_neg (fun q => c ((xor_sgn (b32 hx) hy2 h0).1 q)), iI_mul]
    by_cases d : y ∣ x
    · rw [Int.tdiv_eq_ediv_of_dvd d, Int.ediv_mul_cancel d, if_pos rfl]
    · have hs : y.sign = 1 := Int.sign_eq_one_of_pos h0
      have e : x.tdiv y = x / y + 1 := by
        rw [Int.tdiv_eq_ediv, if_neg (by intro q; exact q.elim c d), hs]
      have q1 := Int.mul_ediv_add_emod x y
      have q2 := Int.emod_nonneg x (show y ≠ 0 by omega)
      have q3 := Int.emod_lt_of_pos x h0
      have q4 : (x / y + 1) * y = y * (x / y) + y := by rw [Int.add_mul, Int.one_mul, Int.mul_comm]
      rw [e, if_neg (fun q => by
        have := (iI_eq (a := (x / y + 1) * y) ⟨by omega, by omega⟩ (b32 hx)).1 q
        exact d ⟨x / y + 1, this.symm.trans (Int.mul_comm _ _)⟩)]
      have e2 : iI (x / y + 1) - 1 = iI (x / y + 1 - 1) := iI_sub _ 1
      rw [e2]
      congr 3
      omega
def nar (a b : Int) (p : Int × Int) : Int × Int := if 0 < a then (p.1, min p.2 (b / a)) else if a < 0 then (max p.1 (-(b / (-a))), p.2) else if b < 0 then (p.1, -1) else p
def Bd (p : Int × Int) : Prop := (0 ≤ p.1 ∧ p.1 ≤ 2000000000) ∧ (-2000000000 ≤ p.2 ∧ p.2 ≤ 9999)
theorem nar_bd {a b : Int} {p : Int × Int} (hb : -2000000000 ≤ b ∧ b ≤ 2000000000) (h : Bd p) : Bd (nar a b p) := by
  obtain ⟨h1, h2⟩ := h
  unfold nar
  split
  · rename_i c
    have := ediv_bb hb c
    exact ⟨h1, by dsimp only; omega⟩
  · split
    · rename_i c1 c
      have := ediv_bb hb (show 0 < -a by omega)
      exact ⟨by dsimp only; omega, h2⟩
    · split
      · exact ⟨h1, by dsimp only; omega⟩
      · exact ⟨h1, h2⟩
theorem nar_iff {a b m : Int} {p : Int × Int} (hm : 0 ≤ m) : ((nar a b p).1 ≤ m ∧ m ≤ (nar a b p).2) ↔ (p.1 ≤ m ∧ m ≤ p.2) ∧ a * m ≤ b := by
  unfold nar
  split
  · rename_i c
    have e := Int.le_ediv_iff_mul_le (a := m) (b := b) c
    rw [Int.mul_comm a m, ← e]
    dsimp only
    omega
  · split
    · rename_i c1 c
      have e := Int.le_ediv_iff_mul_le (a := -m) (b := b) (show 0 < -a by omega)
      rw [show -m * -a = a * m by rw [Int.neg_mul_neg, Int.mul_comm]] at e
      rw [← e]
      dsimp only
      omega
    · have ha : a = 0 := by omega
      subst ha
      rw [Int.zero_mul]
      split
      · dsimp only; omega
      · omega
theorem c_narrow {F A : Nat → Nat → Int32} {B : Nat → Nat → Int64} {r : Nat → Nat} {a b : Int} {p : Int × Int} (ha : -100000 ≤ a ∧ a ≤ 100000) (hb : -2000000000 ≤ b ∧ b ≤ 2000000000) (hp : Bd p) (h4 : F 46 4 = iI p.1) (h5 : F 46 5 = iI p.2) : ∃ F', fX0_narrow 46 (iI a) (iI b) (mkC F A B r) = some ((), mkC F' A B r) ∧ F' 46 4 = iI (nar a b p).1 ∧ F' 46 5 = iI (nar a b p).2 ∧ ∀ c, ¬ c = 46 → F' c = F c := by
  have ha2 : in32 a := ⟨by omega, by omega⟩
  obtain ⟨p1, p2⟩ := hp
  have z1 : iI a ≤ 0 ↔ a ≤ 0 := iI_le0 ha2
  have z2 : 0 ≤ iI a ↔ 0 ≤ a := iI_le (a := 0) ⟨by decide, by decide⟩ ha2
  have z3 : 0 ≤ iI b ↔ 0 ≤ b := iI_le (a := 0) ⟨by decide, by decide⟩ (b32 hb)
  unfold fX0_narrow nar
  by_cases c : 0 < a
  · rw [if_pos c]
    have := ediv_bb hb c
    simp -implicitDefEqProofs (disch := first | assumption | omega | decide | exact And.intro (by omega) (by omega)) only [cck_0, cr0_0, cr0_1, cr0_2, cr0_3, cg0_4, cp0_4, cg0_5, cp0_5, cck_1, cg1_0, cp1_0, cr1_1, cr1_2, cr1_3, cg1_4, cp1_4, cg1_5, cp1_5, cr1_6, cr1_7, cck_2, cr2_0, cr2_1, cr2_2, cck_3, cr3_0, cr3_1, cg3_2, cp3_2, cg3_3, cp3_3, cg3_4, cp3_4, cg3_5, cp3_5, cg3_6, cp3_6, cg3_7, cp3_7, cg3_8, cp3_8, cck_4, cg4_0, cp4_0, cg4_1, cp4_1, cr4_2, cr4_3, cr4_4, cr4_5, cck_5, cg5_0, cp5_0, cr5_1, cr5_2, cr5_3, cck_6, cg6_0, cp6_0, cg6_1, cp6_1, cck_7, cg7_0, cp7_0, cg7_1, cp7_1, cr7_2, cr7_3, cr7_4, cr7_5, cr7_6, cr7_7, cr7_8, cck_8, cr8_0, cr8_1, cck_9, cr9_0, cr9_1, cr9_2, cr9_3, cg9_4, cp9_4, cck_10, cg10_0, cp10_0, cr10_1, cr10_2, cr10_3, cr10_4, cg10_5, cp10_5, cr10_6, cr10_7, cr10_8, cg10_9, cp10_9, cg10_10, cp10_10, cr10_11, cr10_12, cr10_13, cr10_14, cck_11, cr11_0, cg11_1, cp11_1, cr11_2, cr11_3, cr11_4, cr11_5, cr11_6, cr11_7, cr11_8, cr11_9, cr11_10, cr11_11, cr11_12, cr11_13, cr11_14, ca_30, cs_30, ca_31, cs_31, ca_32, cs_32, ca_33, cs_33, ca_34, cs_34, ca_35, cs_35, ca_36, cs_36, ca_37, cs_37, ca_38, cs_38, ca_39, cs_39, ca_40, cs_40, ca_41, cs_41, ca_42, cs_42, car_20, car_21, car_22, cq11_3, cq11_4, cq3_1, cq0_0, cq0_1, if_true, if_false, Option.bind_some, cb_e, lt_e, nI_1, hs_nar2, nh4, upd_at, vau_at, ca_42_0, cs_42_0, if_neg (fun q => absurd (z1.1 q) (by omega)), c_floorDiv hb (show a ≤ 2000000000 by omega) c, h5, c_min (a := p.2) (b := b / a) (by constructor <;> omega) (by constructor <;> omega)]
    exact ⟨_, rfl, by rw [vau_at, upd_ne (by decide)]; exact h4, by rw [vau_at, upd_at], fun d hd => vau_ne hd⟩
  · rw [if_neg c]
    by_cases c2 : a < 0
    · rw [if_pos c2]
      have := ediv_bb hb (show 0 < -a by omega)
      simp -implicitDefEqProofs (disch := first | assumption | omega | decide | exact And.intro (by omega) (by omega)) only [cck_0, cr0_0, cr0_1, cr0_2, cr0_3, cg0_4, cp0_4, cg0_5, cp0_5, cck_1, cg1_0, cp1_0, cr1_1, cr1_2, cr1_3, cg1_4, cp1_4, cg1_5, cp1_5, cr1_6, cr1_7, cck_2, cr2_0, cr2_1, cr2_2, cck_3, cr3_0, cr3_1, cg3_2, cp3_2, cg3_3, cp3_3, cg3_4, cp3_4, cg3_5, cp3_5, cg3_6, cp3_6, cg3_7, cp3_7, cg3_8, cp3_8, cck_4, cg4_0, cp4_0, cg4_1, cp4_1, cr4_2, cr4_3, cr4_4, cr4_5, cck_5, cg5_0, cp5_0, cr5_1, cr5_2, cr5_3, cck_6, cg6_0, cp6_0, cg6_1, cp6_1, cck_7, cg7_0, cp7_0, cg7_1, cp7_1, cr7_2, cr7_3, cr7_4, cr7_5, cr7_6, cr7_7, cr7_8, cck_8, cr8_0, cr8_1, cck_9, cr9_0, cr9_1, cr9_2, cr9_3, cg9_4, cp9_4, cck_10, cg10_0, cp10_0, cr10_1, cr10_2, cr10_3, cr10_4, cg10_5, cp10_5, cr10_6, cr10_7, cr10_8, cg10_9, cp10_9, cg10_10, cp10_10, cr10_11, cr10_12, cr10_13, cr10_14, cck_11, cr11_0, cg11_1, cp11_1, cr11_2, cr11_3, cr11_4, cr11_5, cr11_6, cr11_7, cr11_8, cr11_9, cr11_10, cr11_11, cr11_12, cr11_13, cr11_14, ca_30, cs_30, ca_31, cs_31, ca_32, cs_32, ca_33, cs_33, ca_34, cs_34, ca_35, cs_35, ca_36, cs_36, ca_37, cs_37, ca_38, cs_38, ca_39, cs_39, ca_40, cs_40, ca_41, cs_41, ca_42, cs_42, car_20, car_21, car_22, cq11_3, cq11_4, cq3_1, cq0_0, cq0_1, if_true, if_false, Option.bind_some, cb_e, lt_e, nI_1, hs_nar2, nh4, upd_at, vau_at, ca_42_0, cs_42_0, if_pos (z1.2 (by omega)), if_neg (fun q => absurd (z2.1 q) (by omega)), iI_neg, c_floorDiv hb (show -a ≤ 2000000000 by omega) (show 0 < -a by omega), h4, c_max (a := p.1) (b := -(b / (-a))) (by constructor <;> omega) (by constructor <;> omega)]
      exact ⟨_, rfl, by rw [vau_at, upd_at], by rw [vau_at, upd_ne (by decide)]; exact h5, fun d hd => vau_ne hd⟩
    · rw [if_neg c2]
      by_cases c3 : b < 0
      · rw [if_pos c3]
        simp -implicitDefEqProofs (disch := first | assumption | omega | decide | exact And.intro (by omega) (by omega)) only [cck_0, cr0_0, cr0_1, cr0_2, cr0_3, cg0_4, cp0_4, cg0_5, cp0_5, cck_1, cg1_0, cp1_0, cr1_1, cr1_2, cr1_3, cg1_4, cp1_4, cg1_5, cp1_5, cr1_6, cr1_7, cck_2, cr2_0, cr2_1, cr2_2, cck_3, cr3_0, cr3_1, cg3_2, cp3_2, cg3_3, cp3_3, cg3_4, cp3_4, cg3_5, cp3_5, cg3_6, cp3_6, cg3_7, cp3_7, cg3_8, cp3_8, cck_4, cg4_0, cp4_0, cg4_1, cp4_1, cr4_2, cr4_3, cr4_4, cr4_5, cck_5, cg5_0, cp5_0, cr5_1, cr5_2, cr5_3, cck_6, cg6_0, cp6_0, cg6_1, cp6_1, cck_7, cg7_0, cp7_0, cg7_1, cp7_1, cr7_2, cr7_3, cr7_4, cr7_5, cr7_6, cr7_7, cr7_8, cck_8, cr8_0, cr8_1, cck_9, cr9_0, cr9_1, cr9_2, cr9_3, cg9_4, cp9_4, cck_10, cg10_0, cp10_0, cr10_1, cr10_2, cr10_3, cr10_4, cg10_5, cp10_5, cr10_6, cr10_7, cr10_8, cg10_9, cp10_9, cg10_10, cp10_10, cr10_11, cr10_12, cr10_13, cr10_14, cck_11, cr11_0, cg11_1, cp11_1, cr11_2, cr11_3, cr11_4, cr11_5, cr11_6, cr11_7, cr11_8, cr11_9, cr11_10, cr11_11, cr11_12, cr11_13, cr11_14, ca_30, cs_30, ca_31, cs_31, ca_32, cs_32, ca_33, cs_33, ca_34, cs_34, ca_35, cs_35, ca_36, cs_36, ca_37, cs_37, ca_38, cs_38, ca_39, cs_39, ca_40, cs_40, ca_41, cs_41, ca_42, cs_42, car_20, car_21, car_22, cq11_3, cq11_4, cq3_1, cq0_0, cq0_1, if_true, if_false, Option.bind_some, cb_e, lt_e, nI_1, hs_nar2, nh4, upd_at, vau_at, ca_42_0, cs_42_0, if_pos (z1.2 (by omega)), if_pos (z2.2 (by omega)), if_neg (fun q => absurd (z3.1 q) (by omega))]
        exact ⟨_, rfl, by rw [vau_at, upd_ne (by decide)]; exact h4, by rw [vau_at, upd_at]; rfl, fun d hd => vau_ne hd⟩
      · rw [if_neg c3]
        simp -implicitDefEqProofs (disch := first | assumption | omega | decide | exact And.intro (by omega) (by omega)) only [cck_0, cr0_0, cr0_1, cr0_2, cr0_3, cg0_4, cp0_4, cg0_5, cp0_5, cck_1, cg1_0, cp1_0, cr1_1, cr1_2, cr1_3, cg1_4, cp1_4, cg1_5, cp1_5, cr1_6, cr1_7, cck_2, cr2_0, cr2_1, cr2_2, cck_3, cr3_0, cr3_1, cg3_2, cp3_2, cg3_3, cp3_3, cg3_4, cp3_4, cg3_5, cp3_5, cg3_6, cp3_6, cg3_7, cp3_7, cg3_8, cp3_8, cck_4, cg4_0, cp4_0, cg4_1, cp4_1, cr4_2, cr4_3, cr4_4, cr4_5, cck_5, cg5_0, cp5_0, cr5_1, cr5_2, cr5_3, cck_6, cg6_0, cp6_0, cg6_1, cp6_1, cck_7, cg7_0, cp7_0, cg7_1, cp7_1, cr7_2, cr7_3, cr7_4, cr7_5, cr7_6, cr7_7, cr7_8, cck_8, cr8_0, cr8_1, cck_9, cr9_0, cr9_1, cr9_2, cr9_3, cg9_4, cp9_4, cck_10, cg10_0, cp10_0, cr10_1, cr10_2, cr10_3, cr10_4, cg10_5, cp10_5, cr10_6, cr10_7, cr10_8, cg10_9, cp10_9, cg10_10, cp10_10, cr10_11, cr10_12, cr10_13, cr10_14, cck_11, cr11_0, cg11_1, cp11_1, cr11_2, cr11_3, cr11_4, cr11_5, cr11_6, cr11_7, cr11_8, cr11_9, cr11_10, cr11_11, cr11_12, cr11_13, cr11_14, ca_30, cs_30, ca_31, cs_31, ca_32, cs_32, ca_33, cs_33, ca_34, cs_34, ca_35, cs_35, ca_36, cs_36, ca_37, cs_37, ca_38, cs_38, ca_39, cs_39, ca_40, cs_40, ca_41, cs_41, ca_42, cs_42, car_20, car_21, car_22, cq11_3, cq11_4, cq3_1, cq0_0, cq0_1, if_true, if_false, Option.bind_some, cb_e, lt_e, nI_1, hs_nar2, nh4, upd_at, vau_at, ca_42_0, cs_42_0, if_pos (z1.2 (by omega)), if_pos (z2.2 (by omega)), if_pos (z3.2 (by omega))]
        exact ⟨F, rfl, h4, h5, fun d hd => rfl⟩
def bA1 (T : TD) (P : AP) (lev : Nat) (spot : Int) (i : Nat) : Int := if i ≤ lev then 2 * (lf T P i - spot) else 0
def bA2 (T : TD) (P : AP) (lev : Nat) (spot : Int) (i : Nat) : Int := if i ≤ lev then 2 * (spot - rt T P i) else 0
def bB1 (T : TD) (P : AP) (i : Nat) : Int := mo0 T P i - 2 * lf T P i * ld0 T P i
def bB2 (T : TD) (P : AP) (i : Nat) : Int := 2 * rt T P i * ld0 T P i - mo0 T P i
def bea (T : TD) (P : AP) (lev : Nat) (spot : Int) : Nat → Nat → Int × Int → Int × Int
  | 0, _, p => p
  | k + 1, i, p => bea T P lev spot k (i + 1) (if 0 < i ∧ pG P i = 1 then p else nar (bA2 T P lev spot i) (bB2 T P i) (nar (bA1 T P lev spot i) (bB1 T P i) p))
theorem CRow.f46 {F F' A : Nat → Nat → Int32} {t : Nat} {T : TD} {P : AP} (q : CRow F A t T 38 P) (h : ∀ c, ¬ c = 46 → F' c = F c) : CRow F' A t T 38 P := by
  have t7 := q.1
  exact ⟨q.1, q.2.1, ⟨q.2.2.1.1, q.2.2.1.2.eq (h t (by omega)) (fun _ _ _ _ => rfl)⟩, q.2.2.2.1.eq (h 38 (by decide)) rfl rfl rfl, q.2.2.2.2⟩
theorem bB_b {T : TD} {P : AP} (hT : GoodT T) (hP : BigP (tNb T) P) {i : Nat} (hi : i < P.1) : (-2000000000 ≤ bB1 T P i ∧ bB1 T P i ≤ 2000000000) ∧ (-2000000000 ≤ bB2 T P i ∧ bB2 T P i ≤ 2000000000) := by
  have h1 := ld_b (mb := -1) (mw := 0) hT hP Tr0 ⟨by decide, by decide⟩ hi
  have h2 := mo_b (mb := -1) (mw := 0) (ma := 0) hT hP Tr0 ⟨by decide, by decide⟩ (fun q => absurd q (by decide)) hi
  have h1' : 1 ≤ ld0 T P i ∧ ld0 T P i ≤ 64152 := h1
  have h2' : -300000000 ≤ mo0 T P i ∧ mo0 T P i ≤ 300000000 := h2
  obtain ⟨_, _, h3, h4⟩ := rest_b hT hP hi
  have h5 := mul_b (a := 2 * lf T P i) (b := ld0 T P i) (M := 4600) (N := 64152) (by omega) (by omega) (by decide)
  have h6 := mul_b (a := 2 * rt T P i) (b := ld0 T P i) (M := 4600) (N := 64152) (by omega) (by omega) (by decide)
  unfold bB1 bB2
  omega
theorem c_bearing_go {t : Nat} {T : TD} {P : AP} {A : Nat → Nat → Int32} {B : Nat → Nat → Int64} {r : Nat → Nat} (r3 : r 3 = t) (r4 : r 4 = 38) {lev : Nat} (hl : lev < 6) {spot : Int} (hs : -2199 ≤ spot ∧ spot ≤ 2298) (hL : CLd A T P) : ∀ k i fuel, i + k = P.1 → k < fuel → ∀ {F : Nat → Nat → Int32} {p : Int × Int}, CRow F A t T 38 P → F 46 4 = iI p.1 → F 46 5 = iI p.2 → Bd p → ∃ F', fX0_bearing_b27 fuel 46 (nI lev) (iI spot) (nI i) (mkC F A B r) = some (b2 (decide ((bea T P lev spot k i p).1 ≤ (bea T P lev spot k i p).2)), mkC F' A B r) ∧ F' 46 4 = iI (bea T P lev spot k i p).1 ∧ F' 46 5 = iI (bea T P lev spot k i p).2 ∧ Bd (bea T P lev spot k i p) ∧ ∀ c, ¬ c = 46 → F' c = F c := by
  have k38 : c_kd 38 = 5 := rfl
  intro k
  induction k with
  | zero =>
    intro i fuel h1 h2 F p hR e4 e5 hp
    obtain ⟨fuel, rfl⟩ : ∃ q, fuel = q + 1 := ⟨fuel - 1, by omega⟩
    have hsz := hR.2.2.2.1.1
    have h6 := hR.2.2.2.2.1
    rw [fX0_bearing_b27]
    simp -implicitDefEqProofs (disch := first | assumption | omega | decide | exact And.intro (by omega) (by omega)) only [cck_0, cr0_0, cr0_1, cr0_2, cr0_3, cg0_4, cp0_4, cg0_5, cp0_5, cck_1, cg1_0, cp1_0, cr1_1, cr1_2, cr1_3, cg1_4, cp1_4, cg1_5, cp1_5, cr1_6, cr1_7, cck_2, cr2_0, cr2_1, cr2_2, cck_3, cr3_0, cr3_1, cg3_2, cp3_2, cg3_3, cp3_3, cg3_4, cp3_4, cg3_5, cp3_5, cg3_6, cp3_6, cg3_7, cp3_7, cg3_8, cp3_8, cck_4, cg4_0, cp4_0, cg4_1, cp4_1, cr4_2, cr4_3, cr4_4, cr4_5, cck_5, cg5_0, cp5_0, cr5_1, cr5_2, cr5_3, cck_6, cg6_0, cp6_0, cg6_1, cp6_1, cck_7, cg7_0, cp7_0, cg7_1, cp7_1, cr7_2, cr7_3, cr7_4, cr7_5, cr7_6, cr7_7, cr7_8, cck_8, cr8_0, cr8_1, cck_9, cr9_0, cr9_1, cr9_2, cr9_3, cg9_4, cp9_4, cck_10, cg10_0, cp10_0, cr10_1, cr10_2, cr10_3, cr10_4, cg10_5, cp10_5, cr10_6, cr10_7, cr10_8, cg10_9, cp10_9, cg10_10, cp10_10, cr10_11, cr10_12, cr10_13, cr10_14, cck_11, cr11_0, cg11_1, cp11_1, cr11_2, cr11_3, cr11_4, cr11_5, cr11_6, cr11_7, cr11_8, cr11_9, cr11_10, cr11_11, cr11_12, cr11_13, cr11_14, ca_30, cs_30, ca_31, cs_31, ca_32, cs_32, ca_33, cs_33, ca_34, cs_34, ca_35, cs_35, ca_36, cs_36, ca_37, cs_37, ca_38, cs_38, ca_39, cs_39, ca_40, cs_40, ca_41, cs_41, ca_42, cs_42, car_20, car_21, car_22, cq11_3, cq11_4, cq3_1, cq0_0, cq0_1, if_true, if_false, Option.bind_some, cb_e, lt_e, nI_1, hs_nar2, nh4, upd_at, vau_at, ca_42_0, cs_42_0, r4, hsz]
    rw [if_pos (nI_le (by omega) (by omega))]
    unfold fX0_bearing_b178
    simp -implicitDefEqProofs (disch := first | assumption | omega | decide | exact And.intro (by omega) (by omega)) only [cck_0, cr0_0, cr0_1, cr0_2, cr0_3, cg0_4, cp0_4, cg0_5, cp0_5, cck_1, cg1_0, cp1_0, cr1_1, cr1_2, cr1_3, cg1_4, cp1_4, cg1_5, cp1_5, cr1_6, cr1_7, cck_2, cr2_0, cr2_1, cr2_2, cck_3, cr3_0, cr3_1, cg3_2, cp3_2, cg3_3, cp3_3, cg3_4, cp3_4, cg3_5, cp3_5, cg3_6, cp3_6, cg3_7, cp3_7, cg3_8, cp3_8, cck_4, cg4_0, cp4_0, cg4_1, cp4_1, cr4_2, cr4_3, cr4_4, cr4_5, cck_5, cg5_0, cp5_0, cr5_1, cr5_2, cr5_3, cck_6, cg6_0, cp6_0, cg6_1, cp6_1, cck_7, cg7_0, cp7_0, cg7_1, cp7_1, cr7_2, cr7_3, cr7_4, cr7_5, cr7_6, cr7_7, cr7_8, cck_8, cr8_0, cr8_1, cck_9, cr9_0, cr9_1, cr9_2, cr9_3, cg9_4, cp9_4, cck_10, cg10_0, cp10_0, cr10_1, cr10_2, cr10_3, cr10_4, cg10_5, cp10_5, cr10_6, cr10_7, cr10_8, cg10_9, cp10_9, cg10_10, cp10_10, cr10_11, cr10_12, cr10_13, cr10_14, cck_11, cr11_0, cg11_1, cp11_1, cr11_2, cr11_3, cr11_4, cr11_5, cr11_6, cr11_7, cr11_8, cr11_9, cr11_10, cr11_11, cr11_12, cr11_13, cr11_14, ca_30, cs_30, ca_31, cs_31, ca_32, cs_32, ca_33, cs_33, ca_34, cs_34, ca_35, cs_35, ca_36, cs_36, ca_37, cs_37, ca_38, cs_38, ca_39, cs_39, ca_40, cs_40, ca_41, cs_41, ca_42, cs_42, car_20, car_21, car_22, cq11_3, cq11_4, cq3_1, cq0_0, cq0_1, if_true, if_false, Option.bind_some, cb_e, lt_e, nI_1, hs_nar2, nh4, upd_at, vau_at, ca_42_0, cs_42_0, e4, e5]
    have e : (iI p.2 < iI p.1) ↔ p.2 < p.1 := iI_lt (by constructor <;> have := hp.2 <;> omega) (by constructor <;> have := hp.1 <;> omega)
    rw [bea]
    refine ⟨F, ?_, e4, e5, hp, fun _ _ => rfl⟩
    by_cases c : p.2 < p.1
    · rw [if_pos (e.2 c), decide_eq_false (by omega)]; rfl
    · rw [if_neg (fun q => c (e.1 q)), decide_eq_true (by omega)]; rfl
  | succ k ih =>
    intro i fuel h1 h2 F p hR e4 e5 hp
    obtain ⟨fuel, rfl⟩ : ∃ q, fuel = q + 1 := ⟨fuel - 1, by omega⟩
    have hi : i < P.1 := by omega
    have hsz := hR.2.2.2.1.1
    have h6 := hR.2.2.2.2.1
    have hi6 : i < 6 := by omega
    have hgl := c_glue (B := B) (r := r) hR hi
    have hrl := c_restLeft (B := B) (r := r) hR hi
    have hrr := c_restRight (B := B) (r := r) hR hi
    rw [fX0_bearing_b27]
    simp -implicitDefEqProofs (disch := first | assumption | omega | decide | exact And.intro (by omega) (by omega)) only [cck_0, cr0_0, cr0_1, cr0_2, cr0_3, cg0_4, cp0_4, cg0_5, cp0_5, cck_1, cg1_0, cp1_0, cr1_1, cr1_2, cr1_3, cg1_4, cp1_4, cg1_5, cp1_5, cr1_6, cr1_7, cck_2, cr2_0, cr2_1, cr2_2, cck_3, cr3_0, cr3_1, cg3_2, cp3_2, cg3_3, cp3_3, cg3_4, cp3_4, cg3_5, cp3_5, cg3_6, cp3_6, cg3_7, cp3_7, cg3_8, cp3_8, cck_4, cg4_0, cp4_0, cg4_1, cp4_1, cr4_2, cr4_3, cr4_4, cr4_5, cck_5, cg5_0, cp5_0, cr5_1, cr5_2, cr5_3, cck_6, cg6_0, cp6_0, cg6_1, cp6_1, cck_7, cg7_0, cp7_0, cg7_1, cp7_1, cr7_2, cr7_3, cr7_4, cr7_5, cr7_6, cr7_7, cr7_8, cck_8, cr8_0, cr8_1, cck_9, cr9_0, cr9_1, cr9_2, cr9_3, cg9_4, cp9_4, cck_10, cg10_0, cp10_0, cr10_1, cr10_2, cr10_3, cr10_4, cg10_5, cp10_5, cr10_6, cr10_7, cr10_8, cg10_9, cp10_9, cg10_10, cp10_10, cr10_11, cr10_12, cr10_13, cr10_14, cck_11, cr11_0, cg11_1, cp11_1, cr11_2, cr11_3, cr11_4, cr11_5, cr11_6, cr11_7, cr11_8, cr11_9, cr11_10, cr11_11, cr11_12, cr11_13, cr11_14, ca_30, cs_30, ca_31, cs_31, ca_32, cs_32, ca_33, cs_33, ca_34, cs_34, ca_35, cs_35, ca_36, cs_36, ca_37, cs_37, ca_38, cs_38, ca_39, cs_39, ca_40, cs_40, ca_41, cs_41, ca_42, cs_42, car_20, car_21, car_22, cq11_3, cq11_4, cq3_1, cq0_0, cq0_1, if_true, if_false, Option.bind_some, cb_e, lt_e, nI_1, hs_nar2, nh4, upd_at, vau_at, ca_42_0, cs_42_0, r4, hsz]
    rw [if_neg (nI_ge (by omega) (by omega)), bea]
    by_cases cg : 0 < i ∧ pG P i = 1
    · obtain ⟨F', z1, z2, z3, z4, z5⟩ := ih (i + 1) fuel (by omega) (by omega) hR e4 e5 hp
      rw [if_pos cg]
      have nb : ¬ b2 true = 0 := by decide
      simp -implicitDefEqProofs (disch := first | assumption | omega | decide | exact And.intro (by omega) (by omega)) only [cck_0, cr0_0, cr0_1, cr0_2, cr0_3, cg0_4, cp0_4, cg0_5, cp0_5, cck_1, cg1_0, cp1_0, cr1_1, cr1_2, cr1_3, cg1_4, cp1_4, cg1_5, cp1_5, cr1_6, cr1_7, cck_2, cr2_0, cr2_1, cr2_2, cck_3, cr3_0, cr3_1, cg3_2, cp3_2, cg3_3, cp3_3, cg3_4, cp3_4, cg3_5, cp3_5, cg3_6, cp3_6, cg3_7, cp3_7, cg3_8, cp3_8, cck_4, cg4_0, cp4_0, cg4_1, cp4_1, cr4_2, cr4_3, cr4_4, cr4_5, cck_5, cg5_0, cp5_0, cr5_1, cr5_2, cr5_3, cck_6, cg6_0, cp6_0, cg6_1, cp6_1, cck_7, cg7_0, cp7_0, cg7_1, cp7_1, cr7_2, cr7_3, cr7_4, cr7_5, cr7_6, cr7_7, cr7_8, cck_8, cr8_0, cr8_1, cck_9, cr9_0, cr9_1, cr9_2, cr9_3, cg9_4, cp9_4, cck_10, cg10_0, cp10_0, cr10_1, cr10_2, cr10_3, cr10_4, cg10_5, cp10_5, cr10_6, cr10_7, cr10_8, cg10_9, cp10_9, cg10_10, cp10_10, cr10_11, cr10_12, cr10_13, cr10_14, cck_11, cr11_0, cg11_1, cp11_1, cr11_2, cr11_3, cr11_4, cr11_5, cr11_6, cr11_7, cr11_8, cr11_9, cr11_10, cr11_11, cr11_12, cr11_13, cr11_14, ca_30, cs_30, ca_31, cs_31, ca_32, cs_32, ca_33, cs_33, ca_34, cs_34, ca_35, cs_35, ca_36, cs_36, ca_37, cs_37, ca_38, cs_38, ca_39, cs_39, ca_40, cs_40, ca_41, cs_41, ca_42, cs_42, car_20, car_21, car_22, cq11_3, cq11_4, cq3_1, cq0_0, cq0_1, if_true, if_false, Option.bind_some, cb_e, lt_e, nI_1, hs_nar2, nh4, upd_at, vau_at, ca_42_0, cs_42_0, hgl, decide_eq_true cg, if_neg nb]
      unfold fX0_bearing_b172
      rw [nI_1]
      exact ⟨F', z1, z2, z3, z4, z5⟩
    · have nb : b2 false = 0 := by decide
      rw [if_neg cg]
      simp -implicitDefEqProofs (disch := first | assumption | omega | decide | exact And.intro (by omega) (by omega)) only [cck_0, cr0_0, cr0_1, cr0_2, cr0_3, cg0_4, cp0_4, cg0_5, cp0_5, cck_1, cg1_0, cp1_0, cr1_1, cr1_2, cr1_3, cg1_4, cp1_4, cg1_5, cp1_5, cr1_6, cr1_7, cck_2, cr2_0, cr2_1, cr2_2, cck_3, cr3_0, cr3_1, cg3_2, cp3_2, cg3_3, cp3_3, cg3_4, cp3_4, cg3_5, cp3_5, cg3_6, cp3_6, cg3_7, cp3_7, cg3_8, cp3_8, cck_4, cg4_0, cp4_0, cg4_1, cp4_1, cr4_2, cr4_3, cr4_4, cr4_5, cck_5, cg5_0, cp5_0, cr5_1, cr5_2, cr5_3, cck_6, cg6_0, cp6_0, cg6_1, cp6_1, cck_7, cg7_0, cp7_0, cg7_1, cp7_1, cr7_2, cr7_3, cr7_4, cr7_5, cr7_6, cr7_7, cr7_8, cck_8, cr8_0, cr8_1, cck_9, cr9_0, cr9_1, cr9_2, cr9_3, cg9_4, cp9_4, cck_10, cg10_0, cp10_0, cr10_1, cr10_2, cr10_3, cr10_4, cg10_5, cp10_5, cr10_6, cr10_7, cr10_8, cg10_9, cp10_9, cg10_10, cp10_10, cr10_11, cr10_12, cr10_13, cr10_14, cck_11, cr11_0, cg11_1, cp11_1, cr11_2, cr11_3, cr11_4, cr11_5, cr11_6, cr11_7, cr11_8, cr11_9, cr11_10, cr11_11, cr11_12, cr11_13, cr11_14, ca_30, cs_30, ca_31, cs_31, ca_32, cs_32, ca_33, cs_33, ca_34, cs_34, ca_35, cs_35, ca_36, cs_36, ca_37, cs_37, ca_38, cs_38, ca_39, cs_39, ca_40, cs_40, ca_41, cs_41, ca_42, cs_42, car_20, car_21, car_22, cq11_3, cq11_4, cq3_1, cq0_0, cq0_1, if_true, if_false, Option.bind_some, cb_e, lt_e, nI_1, hs_nar2, nh4, upd_at, vau_at, ca_42_0, cs_42_0, hgl, decide_eq_false cg, if_pos nb, r3, r4, hrl, hrr]
      obtain ⟨l1, l2⟩ := hL i hi
      obtain ⟨q1, q2⟩ := bB_b hR.2.2.1.1 hR.2.2.2.2 hi
      obtain ⟨_, _, q3, q4⟩ := rest_b hR.2.2.1.1 hR.2.2.2.2 hi
      have eB1 : iI (mo0 T P i) - (2 : Int32) * iI (lf T P i) * iI (ld0 T P i) = iI (bB1 T P i) := by
        rw [two_iI, iI_mul, iI_sub]; rfl
      have eB2 : (2 : Int32) * iI (rt T P i) * iI (ld0 T P i) - iI (mo0 T P i) = iI (bB2 T P i) := by
        rw [two_iI, iI_mul, iI_sub]; rfl
      have ba1 : -100000 ≤ bA1 T P lev spot i ∧ bA1 T P lev spot i ≤ 100000 := by unfold bA1; split <;> omega
      have ba2 : -100000 ≤ bA2 T P lev spot i ∧ bA2 T P lev spot i ≤ 100000 := by unfold bA2; split <;> omega
      obtain ⟨F1, n1, n2, n3, n4⟩ := c_narrow (F := F) (A := A) (B := B) (r := r) ba1 q1 hp e4 e5
      have hp1 := nar_bd (a := bA1 T P lev spot i) q1 hp
      obtain ⟨F2, m1, m2, m3, m4⟩ := c_narrow (F := F1) (A := A) (B := B) (r := r) ba2 q2 hp1 n2 n3
      have hp2 := nar_bd (a := bA2 T P lev spot i) q2 hp1
      obtain ⟨F3, z1, z2, z3, z4, z5⟩ := ih (i + 1) fuel (by omega) (by omega) (F := F2) (hR.f46 (fun c hc => by rw [m4 c hc, n4 c hc])) m2 m3 hp2
      refine ⟨F3, ?_, z2, z3, z4, fun c hc => by rw [z5 c hc, m4 c hc, n4 c hc]⟩
      by_cases cl : i ≤ lev
      · have eA1 : (2 : Int32) * (iI (lf T P i) - iI spot) = iI (bA1 T P lev spot i) := by
          rw [iI_sub, two_iI]; unfold bA1; rw [if_pos cl]
        have eA2 : (2 : Int32) * (iI spot - iI (rt T P i)) = iI (bA2 T P lev spot i) := by
          rw [iI_sub, two_iI]; unfold bA2; rw [if_pos cl]
        have n10 : ¬ (1 : Int32) = 0 := by decide
        rw [if_neg (nI_nlt (by omega) (by omega))]
        unfold fX0_bearing_b92 fX0_bearing_b110 fX0_bearing_b149 fX0_bearing_b172
        simp -implicitDefEqProofs (disch := first | assumption | omega | decide | exact And.intro (by omega) (by omega)) only [cck_0, cr0_0, cr0_1, cr0_2, cr0_3, cg0_4, cp0_4, cg0_5, cp0_5, cck_1, cg1_0, cp1_0, cr1_1, cr1_2, cr1_3, cg1_4, cp1_4, cg1_5, cp1_5, cr1_6, cr1_7, cck_2, cr2_0, cr2_1, cr2_2, cck_3, cr3_0, cr3_1, cg3_2, cp3_2, cg3_3, cp3_3, cg3_4, cp3_4, cg3_5, cp3_5, cg3_6, cp3_6, cg3_7, cp3_7, cg3_8, cp3_8, cck_4, cg4_0, cp4_0, cg4_1, cp4_1, cr4_2, cr4_3, cr4_4, cr4_5, cck_5, cg5_0, cp5_0, cr5_1, cr5_2, cr5_3, cck_6, cg6_0, cp6_0, cg6_1, cp6_1, cck_7, cg7_0, cp7_0, cg7_1, cp7_1, cr7_2, cr7_3, cr7_4, cr7_5, cr7_6, cr7_7, cr7_8, cck_8, cr8_0, cr8_1, cck_9, cr9_0, cr9_1, cr9_2, cr9_3, cg9_4, cp9_4, cck_10, cg10_0, cp10_0, cr10_1, cr10_2, cr10_3, cr10_4, cg10_5, cp10_5, cr10_6, cr10_7, cr10_8, cg10_9, cp10_9, cg10_10, cp10_10, cr10_11, cr10_12, cr10_13, cr10_14, cck_11, cr11_0, cg11_1, cp11_1, cr11_2, cr11_3, cr11_4, cr11_5, cr11_6, cr11_7, cr11_8, cr11_9, cr11_10, cr11_11, cr11_12, cr11_13, cr11_14, ca_30, cs_30, ca_31, cs_31, ca_32, cs_32, ca_33, cs_33, ca_34, cs_34, ca_35, cs_35, ca_36, cs_36, ca_37, cs_37, ca_38, cs_38, ca_39, cs_39, ca_40, cs_40, ca_41, cs_41, ca_42, cs_42, car_20, car_21, car_22, cq11_3, cq11_4, cq3_1, cq0_0, cq0_1, if_true, if_false, Option.bind_some, cb_e, lt_e, nI_1, hs_nar2, nh4, upd_at, vau_at, ca_42_0, cs_42_0, if_neg n10, l1, l2, eB1, eA1, n1, eB2, eA2, m1]
        exact z1
      · have eA1 : (0 : Int32) = iI (bA1 T P lev spot i) := by unfold bA1; rw [if_neg cl]; rfl
        have eA2 : (0 : Int32) = iI (bA2 T P lev spot i) := by unfold bA2; rw [if_neg cl]; rfl
        rw [if_pos (nI_lt (by omega) (by omega))]
        rw [← eA1] at n1
        rw [← eA2] at m1
        unfold fX0_bearing_b92 fX0_bearing_b110 fX0_bearing_b149 fX0_bearing_b172
        simp -implicitDefEqProofs (disch := first | assumption | omega | decide | exact And.intro (by omega) (by omega)) only [cck_0, cr0_0, cr0_1, cr0_2, cr0_3, cg0_4, cp0_4, cg0_5, cp0_5, cck_1, cg1_0, cp1_0, cr1_1, cr1_2, cr1_3, cg1_4, cp1_4, cg1_5, cp1_5, cr1_6, cr1_7, cck_2, cr2_0, cr2_1, cr2_2, cck_3, cr3_0, cr3_1, cg3_2, cp3_2, cg3_3, cp3_3, cg3_4, cp3_4, cg3_5, cp3_5, cg3_6, cp3_6, cg3_7, cp3_7, cg3_8, cp3_8, cck_4, cg4_0, cp4_0, cg4_1, cp4_1, cr4_2, cr4_3, cr4_4, cr4_5, cck_5, cg5_0, cp5_0, cr5_1, cr5_2, cr5_3, cck_6, cg6_0, cp6_0, cg6_1, cp6_1, cck_7, cg7_0, cp7_0, cg7_1, cp7_1, cr7_2, cr7_3, cr7_4, cr7_5, cr7_6, cr7_7, cr7_8, cck_8, cr8_0, cr8_1, cck_9, cr9_0, cr9_1, cr9_2, cr9_3, cg9_4, cp9_4, cck_10, cg10_0, cp10_0, cr10_1, cr10_2, cr10_3, cr10_4, cg10_5, cp10_5, cr10_6, cr10_7, cr10_8, cg10_9, cp10_9, cg10_10, cp10_10, cr10_11, cr10_12, cr10_13, cr10_14, cck_11, cr11_0, cg11_1, cp11_1, cr11_2, cr11_3, cr11_4, cr11_5, cr11_6, cr11_7, cr11_8, cr11_9, cr11_10, cr11_11, cr11_12, cr11_13, cr11_14, ca_30, cs_30, ca_31, cs_31, ca_32, cs_32, ca_33, cs_33, ca_34, cs_34, ca_35, cs_35, ca_36, cs_36, ca_37, cs_37, ca_38, cs_38, ca_39, cs_39, ca_40, cs_40, ca_41, cs_41, ca_42, cs_42, car_20, car_21, car_22, cq11_3, cq11_4, cq3_1, cq0_0, cq0_1, if_true, if_false, Option.bind_some, cb_e, lt_e, nI_1, hs_nar2, nh4, upd_at, vau_at, ca_42_0, cs_42_0, if_true, l1, l2, eB1, n1, eB2, m1]
        exact z1
theorem bea_iff {T : TD} {P : AP} {lev : Nat} {spot m : Int} (hm : 0 ≤ m) : ∀ k i p, ((bea T P lev spot k i p).1 ≤ m ∧ m ≤ (bea T P lev spot k i p).2) ↔ (p.1 ≤ m ∧ m ≤ p.2) ∧ ∀ j, i ≤ j → j < i + k → ((0 < j ∧ pG P j = 1) ∨ (bA1 T P lev spot j * m ≤ bB1 T P j ∧ bA2 T P lev spot j * m ≤ bB2 T P j))
  | 0, i, p => by
    rw [bea]
    exact ⟨fun h => ⟨h, fun j h1 h2 => absurd h2 (by omega)⟩, fun h => h.1⟩
  | k + 1, i, p => by
    rw [bea, bea_iff hm k (i + 1)]
    by_cases c : 0 < i ∧ pG P i = 1
    · rw [if_pos c]
      refine ⟨fun h => ⟨h.1, fun j h1 h2 => ?_⟩, fun h => ⟨h.1, fun j h1 h2 => h.2 j (by omega) (by omega)⟩⟩
      by_cases e : j = i
      · rw [e]; exact Or.inl c
      · exact h.2 j (by omega) (by omega)
    · rw [if_neg c, nar_iff hm, nar_iff hm]
      refine ⟨fun h => ⟨h.1.1.1, fun j h1 h2 => ?_⟩, fun h => ?_⟩
      · by_cases e : j = i
        · rw [e]; exact Or.inr ⟨h.1.1.2, h.1.2⟩
        · exact h.2 j (by omega) (by omega)
      · have hi := (h.2 i (by omega) (by omega)).elim (fun q => absurd q c) id
        exact ⟨⟨⟨h.1, hi.1⟩, hi.2⟩, fun j h1 h2 => h.2 j (by omega) (by omega)⟩
