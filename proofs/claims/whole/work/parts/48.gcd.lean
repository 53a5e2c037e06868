/-! ===== long numbers; point ===== -/
abbrev jN (n : Nat) : Int64 := jJ (n : Int)
theorem jN_in {n : Nat} (h : n < 2 ^ 63) : in64 (n : Int) := ⟨by omega, by omega⟩
theorem jN_div {a b : Nat} (ha : a < 2 ^ 63) (hb : b < 2 ^ 63) : jN a / jN b = jN (a / b) := (Int64.ofNat_div ha hb).symm
theorem jN_add (a b : Nat) : jN a + jN b = jN (a + b) := by rw [jJ_add]; rfl
theorem jN_mul (a b : Nat) : jN a * jN b = jN (a * b) := by rw [jJ_mul]; rfl
theorem jN_rem {a b : Nat} (ha : a < 2 ^ 63) (hb : b < 2 ^ 63) : hs_remL (jN a) (jN b) = jN (a % b) := by
  unfold hs_remL
  rw [jN_div ha hb, jN_mul, jJ_sub]
  congr 1
  have h := Nat.div_add_mod a b
  have h2 : b * (a / b) = a / b * b := Nat.mul_comm _ _
  omega
theorem jN_0 {n : Nat} (h : n < 2 ^ 63) : (jN n = 0) ↔ n = 0 := by
  have e : (0 : Int64) = jJ 0 := rfl
  rw [e, jJ_eq (jN_in h) ⟨by decide, by decide⟩]
  omega
theorem jN_le0 {n : Nat} (h : n < 2 ^ 63) : (jN n ≤ 0) ↔ n = 0 := by
  have e : (0 : Int64) = jJ 0 := rfl
  rw [e, jJ_le (jN_in h) ⟨by decide, by decide⟩]
  omega
theorem half {y y' : Nat} (h0 : 0 < y') (h : y' < y) : 2 * (y % y') < y := by
  have h1 := Nat.mod_lt y h0
  have h2 := Nat.div_add_mod y y'
  have h3 : 1 ≤ y / y' := (Nat.one_le_div_iff h0).2 (Nat.le_of_lt h)
  have h4 := Nat.mul_le_mul_left y' h3
  omega
theorem gcd_step (x y : Nat) : Nat.gcd y (x % y) = Nat.gcd x y := by
  rw [Nat.gcd_comm x y, Nat.gcd_rec y x, Nat.gcd_comm]
theorem c_div {σ : Sto} : ∀ k x y i fuel, y < 2 ^ k → x < 2 ^ 63 → y < 2 ^ 63 → i + 2 * k < 200 → 2 * k < fuel → fX6_divisor_b9 fuel (jN x) (jN y) (nI i) σ = some (jN (Nat.gcd x y), σ) := by
  intro k
  induction k with
  | zero =>
    intro x y i fuel h1 h2 h3 h4 h5
    obtain ⟨fuel, rfl⟩ : ∃ q, fuel = q + 1 := ⟨fuel - 1, by omega⟩
    have hy : y = 0 := by omega
    subst hy
    rw [fX6_divisor_b9, if_neg (show ¬ (200 : Int32) ≤ nI i from nI_ge (b := 200) (by omega) (by decide)), if_pos (by rw [lg_cmp_eq]; rfl), Nat.gcd_zero_right]
  | succ k ih =>
    intro x y i fuel h1 h2 h3 h4 h5
    obtain ⟨fuel, rfl⟩ : ∃ q, fuel = q + 1 := ⟨fuel - 1, by omega⟩
    rw [fX6_divisor_b9, if_neg (show ¬ (200 : Int32) ≤ nI i from nI_ge (b := 200) (by omega) (by decide))]
    by_cases c : y = 0
    · subst c
      rw [if_pos (by rw [lg_cmp_eq]; rfl), Nat.gcd_zero_right]
    · have c1 : ¬ jN y = 0 := fun q => c ((jN_0 h3).1 q)
      have hm := Nat.mod_lt x (Nat.pos_of_ne_zero c)
      rw [if_neg (by rw [lg_cmp_eq]; exact c1), if_neg c1, lt_e, jN_rem h2 h3, nI_1]
      obtain ⟨fuel, rfl⟩ : ∃ q, fuel = q + 1 := ⟨fuel - 1, by omega⟩
      rw [fX6_divisor_b9, if_neg (show ¬ (200 : Int32) ≤ nI (i + 1) from nI_ge (b := 200) (by omega) (by decide))]
      by_cases c2 : x % y = 0
      · rw [c2, if_pos (by rw [lg_cmp_eq]; rfl)]
        have := gcd_step x y
        rw [c2, Nat.gcd_zero_right] at this
        rw [← this]
      · have c3 : ¬ jN (x % y) = 0 := fun q => c2 ((jN_0 (by omega)).1 q)
        have hh := half (Nat.pos_of_ne_zero c2) hm
        have hm2 := Nat.mod_lt y (Nat.pos_of_ne_zero c2)
        rw [if_neg (by rw [lg_cmp_eq]; exact c3), if_neg c3, lt_e, jN_rem h3 (by omega), nI_1]
        rw [ih (x % y) (y % (x % y)) (i + 1 + 1) fuel (by rw [Nat.pow_succ] at h1; omega) (by omega) (by omega) (by omega) (by omega), gcd_step y (x % y), gcd_step x y]
theorem m_com {σ : Sto} : ∀ k x y fuel, y < 2 ^ k → x < 2 ^ 63 → y < 2 ^ 63 → 2 * k < fuel → fX12_common_b17 fuel (jN x) (jN y) σ = some (jN (Nat.gcd x y), σ) := by
  intro k
  induction k with
  | zero =>
    intro x y fuel h1 h2 h3 h5
    obtain ⟨fuel, rfl⟩ : ∃ q, fuel = q + 1 := ⟨fuel - 1, by omega⟩
    have hy : y = 0 := by omega
    subst hy
    rw [fX12_common_b17, if_pos (by rw [lg_cmp_eq]; rfl), Nat.gcd_zero_right]
  | succ k ih =>
    intro x y fuel h1 h2 h3 h5
    obtain ⟨fuel, rfl⟩ : ∃ q, fuel = q + 1 := ⟨fuel - 1, by omega⟩
    rw [fX12_common_b17]
    by_cases c : y = 0
    · subst c
      rw [if_pos (by rw [lg_cmp_eq]; rfl), Nat.gcd_zero_right]
    · have c1 : ¬ jN y = 0 := fun q => c ((jN_0 h3).1 q)
      have hm := Nat.mod_lt x (Nat.pos_of_ne_zero c)
      rw [if_neg (by rw [lg_cmp_eq]; exact c1), if_neg c1, lt_e, jN_rem h2 h3]
      obtain ⟨fuel, rfl⟩ : ∃ q, fuel = q + 1 := ⟨fuel - 1, by omega⟩
      rw [fX12_common_b17]
      by_cases c2 : x % y = 0
      · rw [c2, if_pos (by rw [lg_cmp_eq]; rfl)]
        have := gcd_step x y
        rw [c2, Nat.gcd_zero_right] at this
        rw [← this]
      · have c3 : ¬ jN (x % y) = 0 := fun q => c2 ((jN_0 (by omega)).1 q)
        have hh := half (Nat.pos_of_ne_zero c2) hm
        have hm2 := Nat.mod_lt y (Nat.pos_of_ne_zero c2)
        rw [if_neg (by rw [lg_cmp_eq]; exact c3), if_neg c3, lt_e, jN_rem h3 (by omega)]
        rw [ih (x % y) (y % (x % y)) fuel (by rw [Nat.pow_succ] at h1; omega) (by omega) (by omega) (by omega), gcd_step y (x % y), gcd_step x y]
theorem c_divisor {σ : Sto} {x y : Nat} (hx : x < 2 ^ 63) (hy : y < 2 ^ 63) : fX6_divisor (jN x) (jN y) σ = some (jN (Nat.gcd x y), σ) := by
  unfold fX6_divisor
  exact c_div 63 x y 0 FU hy hx hy (by decide) (by decide)
theorem m_common {σ : Sto} {x : Int} {y : Nat} (hx : x.natAbs < 2 ^ 63) (hy : y < 2 ^ 63) : fX12_common (jJ x) (jN y) σ = some (jN (Nat.gcd x.natAbs y), σ) := by
  unfold fX12_common fX12_common_b12
  have e0 : (0 : Int64) = jJ 0 := rfl
  have hl : (0 ≤ lg_cmp (jJ x) 0) ↔ 0 ≤ x := by rw [lg_cmp_ge, e0, jJ_le ⟨by decide, by decide⟩ ⟨by omega, by omega⟩]
  by_cases c : 0 ≤ x
  · rw [if_pos (hl.2 c), show jJ x = jN x.natAbs by congr 1; omega]
    exact m_com 63 _ y FU hy hx hy (by decide)
  · rw [if_neg (fun q => c (hl.1 q)), jJ_neg, show jJ (-x) = jN x.natAbs by congr 1; omega]
    exact m_com 63 _ y FU hy hx hy (by decide)
theorem c_abs {σ : Sto} {x : Int} (hx : x.natAbs < 2 ^ 63) : fJ9_abs_067f4 (jJ x) σ = some (jN x.natAbs, σ) := by
  unfold fJ9_abs_067f4
  have e0 : (0 : Int64) = jJ 0 := rfl
  have hl : (0 ≤ lg_cmp (jJ x) 0) ↔ 0 ≤ x := by rw [lg_cmp_ge, e0, jJ_le ⟨by decide, by decide⟩ ⟨by omega, by omega⟩]
  by_cases c : 0 ≤ x
  · rw [if_pos (hl.2 c), show jJ x = jN x.natAbs by congr 1; omega]
  · rw [if_neg (fun q => c (hl.1 q)), jJ_neg, show jJ (-x) = jN x.natAbs by congr 1; omega]
theorem gcd_lt {x y : Nat} (hy : 0 < y) : 0 < Nat.gcd x y ∧ Nat.gcd x y ≤ y := ⟨Nat.gcd_pos_of_pos_right x hy, Nat.le_of_dvd hy (Nat.gcd_dvd_right x y)⟩
theorem c_become {F A : Nat → Nat → Int32} {B : Nat → Nat → Int64} {r : Nat → Nat} {c : Nat} (hc : c_kd c = 6) {x : Int} {y : Nat} (hx : x.natAbs < 2 ^ 63) (hy : y < 2 ^ 63) (h0 : 0 < y) : ∃ B', fX6_become c (jJ x) (jN y) (mkC F A B r) = some ((), mkC F A B' r) ∧ B' c 0 = jJ x / jN (Nat.gcd x.natAbs y) ∧ B' c 1 = jN (y / Nat.gcd x.natAbs y) ∧ ∀ d, ¬ d = c → B' d = B d := by
  have hg := gcd_lt (x := x.natAbs) h0
  have hg63 : Nat.gcd x.natAbs y < 2 ^ 63 := by omega
  have n1 : ¬ lg_cmp (jN (Nat.gcd x.natAbs y)) 0 ≤ 0 := by rw [lg_cmp_le, jN_le0 hg63]; omega
  have n2 : ¬ jN (Nat.gcd x.natAbs y) = 0 := by rw [jN_0 hg63]; omega
  unfold fX6_become
  simp -implicitDefEqProofs (disch := first | assumption | omega | decide | exact And.intro (by omega) (by omega)) only [cck_0, cr0_0, cr0_1, cr0_2, cr0_3, cg0_4, cp0_4, cg0_5, cp0_5, cck_1, cg1_0, cp1_0, cr1_1, cr1_2, cr1_3, cg1_4, cp1_4, cg1_5, cp1_5, cr1_6, cr1_7, cck_2, cr2_0, cr2_1, cr2_2, cck_3, cr3_0, cr3_1, cg3_2, cp3_2, cg3_3, cp3_3, cg3_4, cp3_4, cg3_5, cp3_5, cg3_6, cp3_6, cg3_7, cp3_7, cg3_8, cp3_8, cck_4, cg4_0, cp4_0, cg4_1, cp4_1, cr4_2, cr4_3, cr4_4, cr4_5, cck_5, cg5_0, cp5_0, cr5_1, cr5_2, cr5_3, cck_6, cg6_0, cp6_0, cg6_1, cp6_1, cck_7, cg7_0, cp7_0, cg7_1, cp7_1, cr7_2, cr7_3, cr7_4, cr7_5, cr7_6, cr7_7, cr7_8, cck_8, cr8_0, cr8_1, cck_9, cr9_0, cr9_1, cr9_2, cr9_3, cg9_4, cp9_4, cck_10, cg10_0, cp10_0, cr10_1, cr10_2, cr10_3, cr10_4, cg10_5, cp10_5, cr10_6, cr10_7, cr10_8, cg10_9, cp10_9, cg10_10, cp10_10, cr10_11, cr10_12, cr10_13, cr10_14, cck_11, cr11_0, cg11_1, cp11_1, cr11_2, cr11_3, cr11_4, cr11_5, cr11_6, cr11_7, cr11_8, cr11_9, cr11_10, cr11_11, cr11_12, cr11_13, cr11_14, ca_30, cs_30, ca_31, cs_31, ca_32, cs_32, ca_33, cs_33, ca_34, cs_34, ca_35, cs_35, ca_36, cs_36, ca_37, cs_37, ca_38, cs_38, ca_39, cs_39, ca_40, cs_40, ca_41, cs_41, ca_42, cs_42, car_20, car_21, car_22, cq11_3, cq11_4, cq3_1, cq0_0, cq0_1, if_true, if_false, Option.bind_some, cb_e, lt_e, nI_1, hs_nar2, nh4, upd_at, vau_at, ca_42_0, cs_42_0, c_abs hx, c_divisor hx hy, if_neg n1, if_neg n2, jN_div hy hg63]
  refine ⟨_, rfl, ?_, ?_, fun d hd => by rw [vau_ne hd, vau_ne hd]⟩
  · rw [vau_at, updL_ne (by decide), updL_at]
  · rw [vau_at, updL_at]
/-- scratch of the reckoning with fractions -/
def CR (A A' : Nat → Nat → Int32) (B B' : Nat → Nat → Int64) : Prop := (∀ c, ¬ c = 125 → A' c = A c) ∧ ∀ c, c < 126 → B' c = B c
def MR (F F' : Nat → Int32) (A A' : Nat → Nat → Int32) (B B' : Nat → Nat → Int64) : Prop := (∀ k, ¬ k = 60 → F' k = F k) ∧ (∀ c, ¬ c = 37 → A' c = A c) ∧ ∀ c, ¬ c = 0 → B' c = B c
theorem CR.rf {A : Nat → Nat → Int32} {B : Nat → Nat → Int64} : CR A A B B := ⟨fun _ _ => rfl, fun _ _ => rfl⟩
theorem MR.rf {F : Nat → Int32} {A : Nat → Nat → Int32} {B : Nat → Nat → Int64} : MR F F A A B B := ⟨fun _ _ => rfl, fun _ _ => rfl, fun _ _ => rfl⟩
theorem CR.tr {A A1 A2 : Nat → Nat → Int32} {B B1 B2 : Nat → Nat → Int64} (h : CR A A1 B B1) (g : CR A1 A2 B1 B2) : CR A A2 B B2 := ⟨fun c q => (g.1 c q).trans (h.1 c q), fun c q => (g.2 c q).trans (h.2 c q)⟩
theorem MR.tr {F F1 F2 : Nat → Int32} {A A1 A2 : Nat → Nat → Int32} {B B1 B2 : Nat → Nat → Int64} (h : MR F F1 A A1 B B1) (g : MR F1 F2 A1 A2 B1 B2) : MR F F2 A A2 B B2 := ⟨fun c q => (g.1 c q).trans (h.1 c q), fun c q => (g.2.1 c q).trans (h.2.1 c q), fun c q => (g.2.2 c q).trans (h.2.2 c q)⟩
section ST7
variable {F F' : Nat → Int32} {A A' : Nat → Nat → Int32} {B B' : Nat → Nat → Int64} {Fc Fc' Ac Ac' : Nat → Nat → Int32} {Bc Bc' : Nat → Nat → Int64} {rc rc' : Nat → Nat} {t lv : Nat} {T : TD} {u w : Nat} {ps : Nat → AP} {n7 : Nat} {sp : Nat → AP}
theorem CR.eq (h : CR Ac Ac' Bc Bc') (ht : t = 7 ∨ t = 22) : CEq t Fc Fc Ac Ac' Bc Bc' rc rc := ⟨⟨rfl, rfl, fun _ _ => rfl⟩, fun c hc => h.1 c (by unfold KA at hc; omega), h.2 3 (by decide), rfl, rfl⟩
theorem MR.eq (h : MR F F' A A' B B') : MEq F F' A A' B B' := ⟨⟨h.1 _ (by decide), h.1 _ (by decide), h.1 _ (by decide), h.1 _ (by decide)⟩, fun c hc => h.2.1 c (by unfold KM at hc; omega), h.2.2 7 (by decide)⟩
theorem rel_ratio (hT : Tape F A Fc Ac) (hC : Core F A B Fc Ac Bc rc t lv T u w ps n7 sp) (hm : MR F F' A A' B B') (hc : CR Ac Ac' Bc Bc') : Rel (mkC Fc Ac' Bc' rc) (mkM F' A' B') :=
  rel_mk hT hC hm.eq (hc.eq hC.t7) (hm.1 2 (by decide)) (hm.2.1 1 (by decide)) rfl (hc.1 1 (by decide))
end ST7
theorem ag_point : Ag_IB Rel fX11_point fX12_point := by
  intro σc σm a bl hbl hR
  obtain ⟨F, A, B, Fc, Ac, Bc, rc, t, lv, T, u, w, ps, n7, sp, rfl, rfl, hT, hC⟩ := id hR
  obtain ⟨x, hx, rfl⟩ := iI_of a
  obtain ⟨b1, b2⟩ := both_level hC hx
  have h6 := hC.goodP.1
  unfold fX11_point fX12_point
  rw [cck_11 rfl, mck, b1, b2]
  simp -implicitDefEqProofs only [cb_e, Option.bind_some]
  by_cases c : 0 ≤ x ∧ x < (ps u).1
  · obtain ⟨i, hi, rfl⟩ := nat_of c
    have e3 : iI (i : Int) = nI i := rfl
    rw [decide_eq_true c, if_neg (by decide), if_neg (by decide), e3]
    obtain ⟨F1, A1, ma, p1, p2, p3, p4, p5⟩ := core_copies hC
    obtain ⟨F2, A2, B2, q1, q2, q3⟩ := m_fillsLoads B p2 p3
    obtain ⟨A3, r3, s1, s2, s3, s4, s5⟩ := c_weigh Bc rc hC.crow
    have l1 : A3 47 i = iI (ld T tr0 (-1) 0 (ps u) i) := (s3 i hi).1
    have l2 : B2 33 i = jJ (ld T tr0 (-1) 0 (ps u) i) := (q3 i hi).1
    have k1 : A3 48 i = iI (mo T tr0 (-1) 0 0 (ps u) i) := (s3 i hi).2
    have em : mo T tr0 (-1) 0 ma (ps u) i = mo T tr0 (-1) 0 0 (ps u) i := by
      have e : gm T tr0 (-1) 0 ma (ps u) = gm T tr0 (-1) 0 0 (ps u) := by
        funext j
        unfold gm
        rw [if_neg (by omega), if_neg (by omega)]
      unfold mo
      rw [e]
    have k2 : B2 34 i = jJ (mo T tr0 (-1) 0 0 (ps u) i) := by rw [← em]; exact (q3 i hi).2
    have hb := ld_b (mb := -1) (mw := 0) hC.2.1.1 hC.goodP.big Tr0 ⟨by decide, by decide⟩ hi
    have hmo := mo_b (mb := -1) (mw := 0) (ma := 0) hC.2.1.1 hC.goodP.big Tr0 ⟨by decide, by decide⟩ (fun q => absurd q (by decide)) hi
    have hr0 := hC.1.2.1
    generalize ld T tr0 (-1) 0 (ps u) i = L at *
    generalize mo T tr0 (-1) 0 0 (ps u) i = M at *
    have hM63 : M.natAbs < 2 ^ 63 := by omega
    have hL63 : (2 * L).toNat < 2 ^ 63 := by omega
    have hL0 : 0 < (2 * L).toNat := by omega
    have eL : jJ (2 * L) = jN (2 * L).toNat := by congr 1; omega
    obtain ⟨Bc2, z1, z2, z3, z4⟩ := c_become (F := Fc) (A := A3) (B := Bc) (r := r3) (c := 191) rfl hM63 hL63 hL0
    have hg := gcd_lt (x := M.natAbs) hL0
    have hg63 : Nat.gcd M.natAbs (2 * L).toNat < 2 ^ 63 := by omega
    have n2 : ¬ jN (Nat.gcd M.natAbs (2 * L).toNat) = 0 := by rw [jN_0 hg63]; omega
    have mcom := m_common (σ := mkM F2 A2 B2) hM63 hL63
    have hrel : Rel (mkC Fc A3 Bc2 r3) (mkM F2 A2 B2) := rel_mk hT hC (p4.tr q2.mc).eq ⟨⟨rfl, rfl, fun _ _ => rfl⟩, fun c hc => s2.1 c (by unfold KA at hc; have := hC.t7; omega) (by unfold KA at hc; have := hC.t7; omega) (by unfold KA at hc; have := hC.t7; omega), z4 3 (by decide), s2.2 0 (by decide) (by decide), s2.2 1 (by decide) (by decide)⟩ ((p4.tr q2.mc).1 2 (by decide) (by decide) (by decide) (by decide)) ((p4.tr q2.mc).2.1 1 (by decide) (by decide) (by decide) (by decide)) rfl (s2.1 1 (by decide) (by decide) (by have := hC.t7; omega))
    refine ⟨if bl = 0 then jJ M / jN (Nat.gcd M.natAbs (2 * L).toNat) else jN ((2 * L).toNat / Nat.gcd M.natAbs (2 * L).toNat), mkC Fc A3 Bc2 r3, mkM F2 A2 B2, ?_, ?_, hrel⟩
    · unfold fX6_part
      simp -implicitDefEqProofs (disch := first | assumption | omega | decide | exact And.intro (by omega) (by omega)) only [cck_0, cr0_0, cr0_1, cr0_2, cr0_3, cg0_4, cp0_4, cg0_5, cp0_5, cck_1, cg1_0, cp1_0, cr1_1, cr1_2, cr1_3, cg1_4, cp1_4, cg1_5, cp1_5, cr1_6, cr1_7, cck_2, cr2_0, cr2_1, cr2_2, cck_3, cr3_0, cr3_1, cg3_2, cp3_2, cg3_3, cp3_3, cg3_4, cp3_4, cg3_5, cp3_5, cg3_6, cp3_6, cg3_7, cp3_7, cg3_8, cp3_8, cck_4, cg4_0, cp4_0, cg4_1, cp4_1, cr4_2, cr4_3, cr4_4, cr4_5, cck_5, cg5_0, cp5_0, cr5_1, cr5_2, cr5_3, cck_6, cg6_0, cp6_0, cg6_1, cp6_1, cck_7, cg7_0, cp7_0, cg7_1, cp7_1, cr7_2, cr7_3, cr7_4, cr7_5, cr7_6, cr7_7, cr7_8, cck_8, cr8_0, cr8_1, cck_9, cr9_0, cr9_1, cr9_2, cr9_3, cg9_4, cp9_4, cck_10, cg10_0, cp10_0, cr10_1, cr10_2, cr10_3, cr10_4, cg10_5, cp10_5, cr10_6, cr10_7, cr10_8, cg10_9, cp10_9, cg10_10, cp10_10, cr10_11, cr10_12, cr10_13, cr10_14, cck_11, cr11_0, cg11_1, cp11_1, cr11_2, cr11_3, cr11_4, cr11_5, cr11_6, cr11_7, cr11_8, cr11_9, cr11_10, cr11_11, cr11_12, cr11_13, cr11_14, ca_30, cs_30, ca_31, cs_31, ca_32, cs_32, ca_33, cs_33, ca_34, cs_34, ca_35, cs_35, ca_36, cs_36, ca_37, cs_37, ca_38, cs_38, ca_39, cs_39, ca_40, cs_40, ca_41, cs_41, ca_42, cs_42, car_20, car_21, car_22, cq11_3, cq11_4, cq3_1, cq0_0, cq0_1, if_true, if_false, Option.bind_some, cb_e, lt_e, nI_1, hs_nar2, nh4, upd_at, vau_at, ca_42_0, cs_42_0, hr0, s1, l1, k1, iI_jJ, two_jJ]
      rw [eL]
      simp -implicitDefEqProofs (disch := first | assumption | omega | decide | exact And.intro (by omega) (by omega)) only [cck_0, cr0_0, cr0_1, cr0_2, cr0_3, cg0_4, cp0_4, cg0_5, cp0_5, cck_1, cg1_0, cp1_0, cr1_1, cr1_2, cr1_3, cg1_4, cp1_4, cg1_5, cp1_5, cr1_6, cr1_7, cck_2, cr2_0, cr2_1, cr2_2, cck_3, cr3_0, cr3_1, cg3_2, cp3_2, cg3_3, cp3_3, cg3_4, cp3_4, cg3_5, cp3_5, cg3_6, cp3_6, cg3_7, cp3_7, cg3_8, cp3_8, cck_4, cg4_0, cp4_0, cg4_1, cp4_1, cr4_2, cr4_3, cr4_4, cr4_5, cck_5, cg5_0, cp5_0, cr5_1, cr5_2, cr5_3, cck_6, cg6_0, cp6_0, cg6_1, cp6_1, cck_7, cg7_0, cp7_0, cg7_1, cp7_1, cr7_2, cr7_3, cr7_4, cr7_5, cr7_6, cr7_7, cr7_8, cck_8, cr8_0, cr8_1, cck_9, cr9_0, cr9_1, cr9_2, cr9_3, cg9_4, cp9_4, cck_10, cg10_0, cp10_0, cr10_1, cr10_2, cr10_3, cr10_4, cg10_5, cp10_5, cr10_6, cr10_7, cr10_8, cg10_9, cp10_9, cg10_10, cp10_10, cr10_11, cr10_12, cr10_13, cr10_14, cck_11, cr11_0, cg11_1, cp11_1, cr11_2, cr11_3, cr11_4, cr11_5, cr11_6, cr11_7, cr11_8, cr11_9, cr11_10, cr11_11, cr11_12, cr11_13, cr11_14, ca_30, cs_30, ca_31, cs_31, ca_32, cs_32, ca_33, cs_33, ca_34, cs_34, ca_35, cs_35, ca_36, cs_36, ca_37, cs_37, ca_38, cs_38, ca_39, cs_39, ca_40, cs_40, ca_41, cs_41, ca_42, cs_42, car_20, car_21, car_22, cq11_3, cq11_4, cq3_1, cq0_0, cq0_1, if_true, if_false, Option.bind_some, cb_e, lt_e, nI_1, hs_nar2, nh4, upd_at, vau_at, ca_42_0, cs_42_0, z1, z2, z3]
      by_cases cb0 : bl = 0
      · rw [if_pos cb0, if_pos cb0]
        simp -implicitDefEqProofs only [Option.bind_some]
      · rw [if_neg cb0, if_neg cb0]
        simp -implicitDefEqProofs only [Option.bind_some]
    · simp -implicitDefEqProofs (disch := first | assumption | omega | decide | exact And.intro (by omega) (by omega)) only [mck, mg_0, mp_0, mr_1, mg_2, mp_2, mr_3, mg_4, mp_4, mr_5, mr_6, mr_7, mr_8, mr_9, mg_10, mp_10, mg_11, mp_11, mg_12, mp_12, mg_13, mp_13, mg_14, mp_14, mg_15, mp_15, mg_16, mp_16, mg_17, mp_17, mg_18, mp_18, mg_19, mp_19, mg_20, mp_20, mr_21, mr_22, mr_23, mr_24, mr_25, mr_26, mr_27, mr_28, mr_29, mr_30, mr_31, mr_32, mg_33, mp_33, mr_34, mr_35, mr_36, mr_37, mr_38, mg_39, mp_39, mr_40, mr_41, mr_42, mg_43, mp_43, mr_44, mr_45, mg_46, mp_46, mr_47, mr_48, mg_49, mp_49, mg_50, mp_50, mg_51, mp_51, mr_52, mr_53, mr_54, mg_55, mp_55, mr_56, mr_57, mg_58, mp_58, mg_59, mp_59, mg_60, mp_60, mr_61, mg_62, mp_62, mr_63, mr_64, mr_65, mr_66, mr_67, mr_68, ma_1, ms_1, ma_2, ms_2, ma_3, ms_3, ma_4, ms_4, ma_5, ms_5, ma_6, ms_6, ma_7, ms_7, ma_8, ms_8, ma_9, ms_9, ma_10, ms_10, ma_11, ms_11, ma_12, ms_12, ma_13, ms_13, ma_14, ms_14, ma_15, ms_15, ma_16, ms_16, ma_17, ms_17, ma_18, ms_18, ma_19, ms_19, ma_20, ms_20, ma_21, ms_21, ma_22, ms_22, ma_23, ms_23, ma_24, ms_24, ma_25, ms_25, ma_26, ms_26, ma_27, ms_27, ma_28, ms_28, ma_29, ms_29, ma_30, ms_30, ma_31, ms_31, ma_32, ms_32, ma_33, ms_33, ma_34, ms_34, ma_35, ms_35, ma_36, ms_36, ma_37, ms_37, ma_38, ms_38, ma_39, ms_39, ma_40, ms_40, ma_41, ms_41, ma_42, ms_42, ma_43, ms_43, if_true, if_false, Option.bind_some, cb_e, lt_e, nI_1, hs_nar2, nh4, upd_at, vau_at, ma_30_18, ms_30_18, ma_31_18, ms_31_18, ma_28_0, ms_28_0, ma_28_1, ms_28_1, ma_28_2, ms_28_2, ma_28_3, ms_28_3, ma_28_4, ms_28_4, ma_42_0, ms_42_0, ma_42_1, ms_42_1, ma_42_2, ms_42_2, ma_36_0, ms_36_0, p1, q1, l2, k2, two_jJ]
      rw [eL]
      simp -implicitDefEqProofs (disch := first | assumption | omega | decide | exact And.intro (by omega) (by omega)) only [mck, mg_0, mp_0, mr_1, mg_2, mp_2, mr_3, mg_4, mp_4, mr_5, mr_6, mr_7, mr_8, mr_9, mg_10, mp_10, mg_11, mp_11, mg_12, mp_12, mg_13, mp_13, mg_14, mp_14, mg_15, mp_15, mg_16, mp_16, mg_17, mp_17, mg_18, mp_18, mg_19, mp_19, mg_20, mp_20, mr_21, mr_22, mr_23, mr_24, mr_25, mr_26, mr_27, mr_28, mr_29, mr_30, mr_31, mr_32, mg_33, mp_33, mr_34, mr_35, mr_36, mr_37, mr_38, mg_39, mp_39, mr_40, mr_41, mr_42, mg_43, mp_43, mr_44, mr_45, mg_46, mp_46, mr_47, mr_48, mg_49, mp_49, mg_50, mp_50, mg_51, mp_51, mr_52, mr_53, mr_54, mg_55, mp_55, mr_56, mr_57, mg_58, mp_58, mg_59, mp_59, mg_60, mp_60, mr_61, mg_62, mp_62, mr_63, mr_64, mr_65, mr_66, mr_67, mr_68, ma_1, ms_1, ma_2, ms_2, ma_3, ms_3, ma_4, ms_4, ma_5, ms_5, ma_6, ms_6, ma_7, ms_7, ma_8, ms_8, ma_9, ms_9, ma_10, ms_10, ma_11, ms_11, ma_12, ms_12, ma_13, ms_13, ma_14, ms_14, ma_15, ms_15, ma_16, ms_16, ma_17, ms_17, ma_18, ms_18, ma_19, ms_19, ma_20, ms_20, ma_21, ms_21, ma_22, ms_22, ma_23, ms_23, ma_24, ms_24, ma_25, ms_25, ma_26, ms_26, ma_27, ms_27, ma_28, ms_28, ma_29, ms_29, ma_30, ms_30, ma_31, ms_31, ma_32, ms_32, ma_33, ms_33, ma_34, ms_34, ma_35, ms_35, ma_36, ms_36, ma_37, ms_37, ma_38, ms_38, ma_39, ms_39, ma_40, ms_40, ma_41, ms_41, ma_42, ms_42, ma_43, ms_43, if_true, if_false, Option.bind_some, cb_e, lt_e, nI_1, hs_nar2, nh4, upd_at, vau_at, ma_30_18, ms_30_18, ma_31_18, ms_31_18, ma_28_0, ms_28_0, ma_28_1, ms_28_1, ma_28_2, ms_28_2, ma_28_3, ms_28_3, ma_28_4, ms_28_4, ma_42_0, ms_42_0, ma_42_1, ms_42_1, ma_42_2, ms_42_2, ma_36_0, ms_36_0, mcom, k2, if_neg n2, jN_div hL63 hg63]
      by_cases cb0 : bl = 0
      · rw [if_pos cb0, if_pos cb0]
      · rw [if_neg cb0, if_neg cb0]
  · rw [decide_eq_false c, if_pos (by decide), if_pos (by decide)]
    exact ⟨_, _, _, rfl, rfl, hR⟩
