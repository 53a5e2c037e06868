/-! ===== piles that change ===== -/
def apPut (P : AP) (b : Nat) (p : Int) (g : Int32) : AP := (P.1 + 1, (fun i => if i = P.1 then b else pB P i), (fun i => if i = P.1 then p else pP P i), (fun i => if i = P.1 then g else pG P i))
def apDrop (P : AP) : AP := (P.1 - 1, P.2)
def apShift (P : AP) (lev : Nat) (d : Int) : AP := (P.1, pB P, (fun i => if lev ≤ i then pP P i + d else pP P i), pG P)
/-- of the class, only the pile at h has changed -/
def OnlyP (h : Nat) (F F' A A' : Nat → Nat → Int32) : Prop := (∀ c, ¬ c = h → F' c = F c) ∧ ∀ c, ¬ c = h + 1 → ¬ c = h + 2 → ¬ c = h + 3 → A' c = A c
theorem OnlyP.rf {h : Nat} {F A : Nat → Nat → Int32} : OnlyP h F F A A := ⟨fun _ _ => rfl, fun _ _ _ _ => rfl⟩
theorem OnlyP.tr {h : Nat} {F F1 F2 A A1 A2 : Nat → Nat → Int32} (a : OnlyP h F F1 A A1) (b : OnlyP h F1 F2 A1 A2) : OnlyP h F F2 A A2 := ⟨fun c q => (b.1 c q).trans (a.1 c q), fun c q1 q2 q3 => (b.2 c q1 q2 q3).trans (a.2 c q1 q2 q3)⟩
theorem c_put {F A : Nat → Nat → Int32} (B : Nat → Nat → Int64) (r : Nat → Nat) {h : Nat} {P : AP} (hp : PA h) (h5 : CPile F A h P) (h6 : P.1 < 6) {b : Nat} (hb : b < 6) (p : Int) {g : Int32} (hg : g = 0 ∨ g = 1) : ∃ F' A', fX5_put h (nI b) (iI p) g (mkC F A B r) = some ((), mkC F' A' B r) ∧ CPile F' A' h (apPut P b p g) ∧ OnlyP h F F' A A' := by
  obtain ⟨p0, p1, p2, p3⟩ := hp
  have hs := h5.1
  have n1 : ¬ (6 : Int32) ≤ nI P.1 := nI_ge (b := 6) h6 (by decide)
  have n2 : ¬ nI b < 0 := nI_pos (by omega)
  have n3 : ¬ (6 : Int32) ≤ nI b := nI_ge (b := 6) hb (by decide)
  have hnar := nh4 hg
  unfold fX5_put
  simp (disch := first | assumption | omega | decide | exact And.intro (by omega) (by omega)) only [cck_0, cr0_0, cr0_1, cr0_2, cr0_3, cg0_4, cp0_4, cg0_5, cp0_5, cck_1, cg1_0, cp1_0, cr1_1, cr1_2, cr1_3, cg1_4, cp1_4, cg1_5, cp1_5, cr1_6, cr1_7, cck_2, cr2_0, cr2_1, cr2_2, cck_3, cr3_0, cr3_1, cg3_2, cp3_2, cg3_3, cp3_3, cg3_4, cp3_4, cg3_5, cp3_5, cg3_6, cp3_6, cg3_7, cp3_7, cg3_8, cp3_8, cck_4, cg4_0, cp4_0, cg4_1, cp4_1, cr4_2, cr4_3, cr4_4, cr4_5, cck_5, cg5_0, cp5_0, cr5_1, cr5_2, cr5_3, cck_6, cg6_0, cp6_0, cg6_1, cp6_1, cck_7, cg7_0, cp7_0, cg7_1, cp7_1, cr7_2, cr7_3, cr7_4, cr7_5, cr7_6, cr7_7, cr7_8, cck_8, cr8_0, cr8_1, cck_9, cr9_0, cr9_1, cr9_2, cr9_3, cg9_4, cp9_4, cck_10, cg10_0, cp10_0, cr10_1, cr10_2, cr10_3, cr10_4, cg10_5, cp10_5, cr10_6, cr10_7, cr10_8, cg10_9, cp10_9, cg10_10, cp10_10, cr10_11, cr10_12, cr10_13, cr10_14, cck_11, cr11_0, cg11_1, cp11_1, cr11_2, cr11_3, cr11_4, cr11_5, cr11_6, cr11_7, cr11_8, cr11_9, cr11_10, cr11_11, cr11_12, cr11_13, cr11_14, ca_30, cs_30, ca_31, cs_31, ca_32, cs_32, ca_33, cs_33, ca_34, cs_34, ca_35, cs_35, ca_36, cs_36, ca_37, cs_37, ca_38, cs_38, ca_39, cs_39, ca_40, cs_40, ca_41, cs_41, ca_42, cs_42, car_20, car_21, car_22, cq11_3, cq11_4, cq3_1, cq0_0, cq0_1, if_true, if_false, Option.bind_some, cb, lt, nI_1, hs_nar2, nh4, upd_at, vau_at, ca_42_0, cs_42_0, hs, if_neg n1, if_neg n2, if_neg n3, vau_ne, hnar]
  refine ⟨_, _, rfl, ⟨?_, fun i hi => ?_⟩, ⟨fun c q => vau_ne q, fun c q1 q2 q3 => by rw [vau_ne q3, vau_ne q2, vau_ne q1]⟩⟩
  · rw [vau_at, upd_at]
    rfl
  · have e1 : va_up (va_up (va_up A (h + 1) (upd (A (h + 1)) P.1 (nI b))) (h + 2) (upd (A (h + 2)) P.1 (iI p))) (h + 3) (upd (A (h + 3)) P.1 g) (h + 1) = upd (A (h + 1)) P.1 (nI b) := by
      rw [vau_ne (by omega), vau_ne (by omega), vau_at]
    have e2 : va_up (va_up (va_up A (h + 1) (upd (A (h + 1)) P.1 (nI b))) (h + 2) (upd (A (h + 2)) P.1 (iI p))) (h + 3) (upd (A (h + 3)) P.1 g) (h + 2) = upd (A (h + 2)) P.1 (iI p) := by
      rw [vau_ne (by omega), vau_at]
    have e3 : va_up (va_up (va_up A (h + 1) (upd (A (h + 1)) P.1 (nI b))) (h + 2) (upd (A (h + 2)) P.1 (iI p))) (h + 3) (upd (A (h + 3)) P.1 g) (h + 3) = upd (A (h + 3)) P.1 g := vau_at _ _ _
    rw [e1, e2, e3]
    unfold apPut
    dsimp only
    by_cases c : i = P.1
    · rw [c, upd_at, upd_at, upd_at, if_pos rfl, if_pos rfl, if_pos rfl]
      exact ⟨rfl, rfl, rfl⟩
    · rw [upd_ne c, upd_ne c, upd_ne c, if_neg c, if_neg c, if_neg c]
      have : i < P.1 := by have : i < P.1 + 1 := hi; omega
      exact h5.2 i this
theorem c_drop {F A : Nat → Nat → Int32} (B : Nat → Nat → Int64) (r : Nat → Nat) {h : Nat} {P : AP} (hp : PA h) (h5 : CPile F A h P) (h0 : 0 < P.1) (h6 : P.1 ≤ 6) : ∃ F', fX5_drop h (mkC F A B r) = some ((), mkC F' A B r) ∧ CPile F' A h (apDrop P) ∧ OnlyP h F F' A A := by
  obtain ⟨p0, p1, p2, p3⟩ := hp
  have hs := h5.1
  have n1 : ¬ nI P.1 ≤ 0 := nI_nle h0 (by omega)
  have n2 : nI P.1 - 1 = nI (P.1 - 1) := pk_sub (b := 1) (by omega)
  unfold fX5_drop
  simp (disch := first | assumption | omega | decide | exact And.intro (by omega) (by omega)) only [cck_0, cr0_0, cr0_1, cr0_2, cr0_3, cg0_4, cp0_4, cg0_5, cp0_5, cck_1, cg1_0, cp1_0, cr1_1, cr1_2, cr1_3, cg1_4, cp1_4, cg1_5, cp1_5, cr1_6, cr1_7, cck_2, cr2_0, cr2_1, cr2_2, cck_3, cr3_0, cr3_1, cg3_2, cp3_2, cg3_3, cp3_3, cg3_4, cp3_4, cg3_5, cp3_5, cg3_6, cp3_6, cg3_7, cp3_7, cg3_8, cp3_8, cck_4, cg4_0, cp4_0, cg4_1, cp4_1, cr4_2, cr4_3, cr4_4, cr4_5, cck_5, cg5_0, cp5_0, cr5_1, cr5_2, cr5_3, cck_6, cg6_0, cp6_0, cg6_1, cp6_1, cck_7, cg7_0, cp7_0, cg7_1, cp7_1, cr7_2, cr7_3, cr7_4, cr7_5, cr7_6, cr7_7, cr7_8, cck_8, cr8_0, cr8_1, cck_9, cr9_0, cr9_1, cr9_2, cr9_3, cg9_4, cp9_4, cck_10, cg10_0, cp10_0, cr10_1, cr10_2, cr10_3, cr10_4, cg10_5, cp10_5, cr10_6, cr10_7, cr10_8, cg10_9, cp10_9, cg10_10, cp10_10, cr10_11, cr10_12, cr10_13, cr10_14, cck_11, cr11_0, cg11_1, cp11_1, cr11_2, cr11_3, cr11_4, cr11_5, cr11_6, cr11_7, cr11_8, cr11_9, cr11_10, cr11_11, cr11_12, cr11_13, cr11_14, ca_30, cs_30, ca_31, cs_31, ca_32, cs_32, ca_33, cs_33, ca_34, cs_34, ca_35, cs_35, ca_36, cs_36, ca_37, cs_37, ca_38, cs_38, ca_39, cs_39, ca_40, cs_40, ca_41, cs_41, ca_42, cs_42, car_20, car_21, car_22, cq11_3, cq11_4, cq3_1, cq0_0, cq0_1, if_true, if_false, Option.bind_some, cb, lt, nI_1, hs_nar2, nh4, upd_at, vau_at, ca_42_0, cs_42_0, hs, if_neg n1, n2]
  refine ⟨_, rfl, ⟨by rw [vau_at, upd_at]; rfl, fun i hi => ?_⟩, fun c q => vau_ne q, fun _ _ _ _ => rfl⟩
  have : i < P.1 - 1 := hi
  exact h5.2 i (by omega)
theorem c_max0 (lev : Nat) (h : lev < 2 ^ 31) (σ : Sto) : fJ9_max_7cf53 0 (nI lev) σ = some (nI lev, σ) := by
  unfold fJ9_max_7cf53
  by_cases c : 0 < lev
  · rw [if_pos (show (0 : Int32) < nI lev from nI_lt (a := 0) c h)]
  · have : lev = 0 := by omega
    subst this
    rw [if_neg (by decide)]
    rfl
theorem c_shift1 {F A : Nat → Nat → Int32} {B : Nat → Nat → Int64} {r : Nat → Nat} {h : Nat} (p0 : c_kd h = 5) (lev : Nat) (hl : lev < 2 ^ 31) (d : Int32) (X) (fu : Nat) (q1 : fX5_shift_b6 fu h d (nI lev) (mkC F A B r) = X) : ck (mkC F A B r) 5 h (cb (fJ9_max_7cf53 0 (nI lev) (mkC F A B r)) fun r6 σ5 => (fX5_shift_b6 fu h d r6 σ5)) = X := by
  rw [cck_5 p0, c_max0 lev hl]
  exact q1
theorem c_shift2 {F A : Nat → Nat → Int32} {B : Nat → Nat → Int64} {r : Nat → Nat} {h : Nat} (p0 : c_kd h = 5) (lev : Nat) (hl : lev < 2 ^ 31) (d : Int32) (X) (q1 : fX5_shift_b6 FU h d (nI lev) (mkC F A B r) = X) : fX5_shift h (nI lev) d (mkC F A B r) = X := by
  unfold fX5_shift
  exact c_shift1 p0 lev hl d X FU q1
theorem c_shift {F : Nat → Nat → Int32} (B : Nat → Nat → Int64) (r : Nat → Nat) {h : Nat} {P : AP} (hp : PA h) (h6 : P.1 ≤ 6) {lev : Nat} (hl : lev ≤ P.1) (d : Int) {A : Nat → Nat → Int32} (h5 : CPile F A h P) : ∃ A', fX5_shift h (nI lev) (iI d) (mkC F A B r) = some ((), mkC F A' B r) ∧ CPile F A' h (apShift P lev d) ∧ OnlyP h F F A A' := by
  obtain ⟨p0, p1, p2, p3⟩ := hp
  have hs := h5.1
  have key : ∀ k i fuel, i + k = P.1 → k < fuel → ∀ (A1 : Nat → Nat → Int32), (∀ c, ¬ c = h + 2 → A1 c = A c) → (∀ j, i ≤ j → A1 (h + 2) j = A (h + 2) j) → ∃ A', fX5_shift_b6 fuel h (iI d) (nI i) (mkC F A1 B r) = some ((), mkC F A' B r) ∧ (∀ c, ¬ c = h + 2 → A' c = A c) ∧ (∀ j, i ≤ j → j < P.1 → A' (h + 2) j = iI (pP P j + d)) ∧ ∀ j, j < i → A' (h + 2) j = A1 (h + 2) j := by
    intro k
    induction k with
    | zero =>
      intro i fuel h1 h2 A1 g1 g2
      obtain ⟨fuel, rfl⟩ : ∃ q, fuel = q + 1 := ⟨fuel - 1, by omega⟩
      rw [fX5_shift_b6]
      simp (disch := first | assumption | omega | decide | exact And.intro (by omega) (by omega)) only [cck_0, cr0_0, cr0_1, cr0_2, cr0_3, cg0_4, cp0_4, cg0_5, cp0_5, cck_1, cg1_0, cp1_0, cr1_1, cr1_2, cr1_3, cg1_4, cp1_4, cg1_5, cp1_5, cr1_6, cr1_7, cck_2, cr2_0, cr2_1, cr2_2, cck_3, cr3_0, cr3_1, cg3_2, cp3_2, cg3_3, cp3_3, cg3_4, cp3_4, cg3_5, cp3_5, cg3_6, cp3_6, cg3_7, cp3_7, cg3_8, cp3_8, cck_4, cg4_0, cp4_0, cg4_1, cp4_1, cr4_2, cr4_3, cr4_4, cr4_5, cck_5, cg5_0, cp5_0, cr5_1, cr5_2, cr5_3, cck_6, cg6_0, cp6_0, cg6_1, cp6_1, cck_7, cg7_0, cp7_0, cg7_1, cp7_1, cr7_2, cr7_3, cr7_4, cr7_5, cr7_6, cr7_7, cr7_8, cck_8, cr8_0, cr8_1, cck_9, cr9_0, cr9_1, cr9_2, cr9_3, cg9_4, cp9_4, cck_10, cg10_0, cp10_0, cr10_1, cr10_2, cr10_3, cr10_4, cg10_5, cp10_5, cr10_6, cr10_7, cr10_8, cg10_9, cp10_9, cg10_10, cp10_10, cr10_11, cr10_12, cr10_13, cr10_14, cck_11, cr11_0, cg11_1, cp11_1, cr11_2, cr11_3, cr11_4, cr11_5, cr11_6, cr11_7, cr11_8, cr11_9, cr11_10, cr11_11, cr11_12, cr11_13, cr11_14, ca_30, cs_30, ca_31, cs_31, ca_32, cs_32, ca_33, cs_33, ca_34, cs_34, ca_35, cs_35, ca_36, cs_36, ca_37, cs_37, ca_38, cs_38, ca_39, cs_39, ca_40, cs_40, ca_41, cs_41, ca_42, cs_42, car_20, car_21, car_22, cq11_3, cq11_4, cq3_1, cq0_0, cq0_1, if_true, if_false, Option.bind_some, cb, lt, nI_1, hs_nar2, nh4, upd_at, vau_at, ca_42_0, cs_42_0, hs]
      rw [if_pos (nI_le (by omega) (by omega))]
      exact ⟨_, rfl, g1, fun j q1 q2 => by omega, fun _ _ => rfl⟩
    | succ k ih =>
      intro i fuel h1 h2 A1 g1 g2
      obtain ⟨fuel, rfl⟩ : ∃ q, fuel = q + 1 := ⟨fuel - 1, by omega⟩
      have e1 := (h5.2 i (by omega)).2.1
      have e2 := g2 i (Nat.le_refl _)
      rw [fX5_shift_b6]
      simp (disch := first | assumption | omega | decide | exact And.intro (by omega) (by omega)) only [cck_0, cr0_0, cr0_1, cr0_2, cr0_3, cg0_4, cp0_4, cg0_5, cp0_5, cck_1, cg1_0, cp1_0, cr1_1, cr1_2, cr1_3, cg1_4, cp1_4, cg1_5, cp1_5, cr1_6, cr1_7, cck_2, cr2_0, cr2_1, cr2_2, cck_3, cr3_0, cr3_1, cg3_2, cp3_2, cg3_3, cp3_3, cg3_4, cp3_4, cg3_5, cp3_5, cg3_6, cp3_6, cg3_7, cp3_7, cg3_8, cp3_8, cck_4, cg4_0, cp4_0, cg4_1, cp4_1, cr4_2, cr4_3, cr4_4, cr4_5, cck_5, cg5_0, cp5_0, cr5_1, cr5_2, cr5_3, cck_6, cg6_0, cp6_0, cg6_1, cp6_1, cck_7, cg7_0, cp7_0, cg7_1, cp7_1, cr7_2, cr7_3, cr7_4, cr7_5, cr7_6, cr7_7, cr7_8, cck_8, cr8_0, cr8_1, cck_9, cr9_0, cr9_1, cr9_2, cr9_3, cg9_4, cp9_4, cck_10, cg10_0, cp10_0, cr10_1, cr10_2, cr10_3, cr10_4, cg10_5, cp10_5, cr10_6, cr10_7, cr10_8, cg10_9, cp10_9, cg10_10, cp10_10, cr10_11, cr10_12, cr10_13, cr10_14, cck_11, cr11_0, cg11_1, cp11_1, cr11_2, cr11_3, cr11_4, cr11_5, cr11_6, cr11_7, cr11_8, cr11_9, cr11_10, cr11_11, cr11_12, cr11_13, cr11_14, ca_30, cs_30, ca_31, cs_31, ca_32, cs_32, ca_33, cs_33, ca_34, cs_34, ca_35, cs_35, ca_36, cs_36, ca_37, cs_37, ca_38, cs_38, ca_39, cs_39, ca_40, cs_40, ca_41, cs_41, ca_42, cs_42, car_20, car_21, car_22, cq11_3, cq11_4, cq3_1, cq0_0, cq0_1, if_true, if_false, Option.bind_some, cb, lt, nI_1, hs_nar2, nh4, upd_at, vau_at, ca_42_0, cs_42_0, hs]
      rw [if_neg (nI_ge (by omega) (by omega))]
      simp (disch := first | assumption | omega | decide | exact And.intro (by omega) (by omega)) only [cck_0, cr0_0, cr0_1, cr0_2, cr0_3, cg0_4, cp0_4, cg0_5, cp0_5, cck_1, cg1_0, cp1_0, cr1_1, cr1_2, cr1_3, cg1_4, cp1_4, cg1_5, cp1_5, cr1_6, cr1_7, cck_2, cr2_0, cr2_1, cr2_2, cck_3, cr3_0, cr3_1, cg3_2, cp3_2, cg3_3, cp3_3, cg3_4, cp3_4, cg3_5, cp3_5, cg3_6, cp3_6, cg3_7, cp3_7, cg3_8, cp3_8, cck_4, cg4_0, cp4_0, cg4_1, cp4_1, cr4_2, cr4_3, cr4_4, cr4_5, cck_5, cg5_0, cp5_0, cr5_1, cr5_2, cr5_3, cck_6, cg6_0, cp6_0, cg6_1, cp6_1, cck_7, cg7_0, cp7_0, cg7_1, cp7_1, cr7_2, cr7_3, cr7_4, cr7_5, cr7_6, cr7_7, cr7_8, cck_8, cr8_0, cr8_1, cck_9, cr9_0, cr9_1, cr9_2, cr9_3, cg9_4, cp9_4, cck_10, cg10_0, cp10_0, cr10_1, cr10_2, cr10_3, cr10_4, cg10_5, cp10_5, cr10_6, cr10_7, cr10_8, cg10_9, cp10_9, cg10_10, cp10_10, cr10_11, cr10_12, cr10_13, cr10_14, cck_11, cr11_0, cg11_1, cp11_1, cr11_2, cr11_3, cr11_4, cr11_5, cr11_6, cr11_7, cr11_8, cr11_9, cr11_10, cr11_11, cr11_12, cr11_13, cr11_14, ca_30, cs_30, ca_31, cs_31, ca_32, cs_32, ca_33, cs_33, ca_34, cs_34, ca_35, cs_35, ca_36, cs_36, ca_37, cs_37, ca_38, cs_38, ca_39, cs_39, ca_40, cs_40, ca_41, cs_41, ca_42, cs_42, car_20, car_21, car_22, cq11_3, cq11_4, cq3_1, cq0_0, cq0_1, if_true, if_false, Option.bind_some, cb, lt, nI_1, hs_nar2, nh4, upd_at, vau_at, ca_42_0, cs_42_0, e2, e1, iI_add]
      obtain ⟨A', q1, q2, q3, q4⟩ := ih (i + 1) fuel (by omega) (by omega) (va_up A1 (h + 2) (upd (A1 (h + 2)) i (iI (P.2.2.1 i + d)))) (fun c hc => by rw [vau_ne hc]; exact g1 c hc) (fun j hj => by rw [vau_at, upd_ne (by omega)]; exact g2 j (by omega))
      refine ⟨A', q1, q2, fun j z1 z2 => ?_, fun j z1 => ?_⟩
      · by_cases c : j = i
        · rw [c, q4 i (by omega), vau_at, upd_at]
        · exact q3 j (by omega) z2
      · rw [q4 j (by omega), vau_at, upd_ne (by omega)]
  obtain ⟨A', q1, q2, q3, q4⟩ := key (P.1 - lev) lev FU (by omega) (by unfold FU; omega) A (fun _ _ => rfl) (fun _ _ => rfl)
  refine ⟨A', c_shift2 p0 lev (by omega) _ _ q1, ⟨hs, fun i hi => ?_⟩, fun _ _ => rfl, fun c z1 z2 z3 => q2 c z2⟩
  have hi2 : i < P.1 := hi
  have e := h5.2 i hi2
  rw [q2 (h + 1) (by omega), q2 (h + 3) (by omega)]
  refine ⟨e.1, ?_, e.2.2⟩
  unfold apShift
  dsimp only
  by_cases c : lev ≤ i
  · rw [if_pos c]; exact q3 i c hi2
  · rw [if_neg c, q4 i (by omega)]; exact e.2.1
/-- the model's row, shifted -/
theorem m_shifts {F : Nat → Int32} {B : Nat → Nat → Int64} {P : AP} (h6 : P.1 ≤ 6) {lev : Nat} (hl : lev ≤ P.1) (d : Int) {A : Nat → Nat → Int32} (h5 : MPile A 31 0 P) : ∃ A', fX12_shifts 0 (nI lev) (iI d) (mkM F A B) = some ((), mkM F A' B) ∧ MPile A' 31 0 (apShift P lev d) ∧ (∀ c, ¬ c = 31 → A' c = A c) := by
  have hs := h5.1
  rw [Nat.zero_add] at hs
  have key : ∀ k i fuel, i + k = P.1 → k < fuel → ∀ (A1 : Nat → Nat → Int32), (∀ c, ¬ c = 31 → A1 c = A c) → (∀ j, 6 + i ≤ j → A1 31 j = A 31 j) → ∃ A', fX12_shifts_b2 fuel 0 (iI d) (nI i) (mkM F A1 B) = some ((), mkM F A' B) ∧ (∀ c, ¬ c = 31 → A' c = A c) ∧ (∀ j, i ≤ j → j < P.1 → A' 31 (6 + j) = iI (pP P j + d)) ∧ (∀ j, j < 6 + i → A' 31 j = A1 31 j) ∧ ∀ j, 6 + P.1 ≤ j → A' 31 j = A1 31 j := by
    intro k
    induction k with
    | zero =>
      intro i fuel h1 h2 A1 g1 g2
      obtain ⟨fuel, rfl⟩ : ∃ q, fuel = q + 1 := ⟨fuel - 1, by omega⟩
      have e18 := g2 18 (by omega)
      rw [fX12_shifts_b2]
      simp (disch := first | assumption | omega | decide | exact And.intro (by omega) (by omega)) only [mck, mg_0, mp_0, mr_1, mg_2, mp_2, mr_3, mg_4, mp_4, mr_5, mr_6, mr_7, mr_8, mr_9, mg_10, mp_10, mg_11, mp_11, mg_12, mp_12, mg_13, mp_13, mg_14, mp_14, mg_15, mp_15, mg_16, mp_16, mg_17, mp_17, mg_18, mp_18, mg_19, mp_19, mg_20, mp_20, mr_21, mr_22, mr_23, mr_24, mr_25, mr_26, mr_27, mr_28, mr_29, mr_30, mr_31, mr_32, mg_33, mp_33, mr_34, mr_35, mr_36, mr_37, mr_38, mg_39, mp_39, mr_40, mr_41, mr_42, mg_43, mp_43, mr_44, mr_45, mg_46, mp_46, mr_47, mr_48, mg_49, mp_49, mg_50, mp_50, mg_51, mp_51, mr_52, mr_53, mr_54, mg_55, mp_55, mr_56, mr_57, mg_58, mp_58, mg_59, mp_59, mg_60, mp_60, mr_61, mg_62, mp_62, mr_63, mr_64, mr_65, mr_66, mr_67, mr_68, ma_1, ms_1, ma_2, ms_2, ma_3, ms_3, ma_4, ms_4, ma_5, ms_5, ma_6, ms_6, ma_7, ms_7, ma_8, ms_8, ma_9, ms_9, ma_10, ms_10, ma_11, ms_11, ma_12, ms_12, ma_13, ms_13, ma_14, ms_14, ma_15, ms_15, ma_16, ms_16, ma_17, ms_17, ma_18, ms_18, ma_19, ms_19, ma_20, ms_20, ma_21, ms_21, ma_22, ms_22, ma_23, ms_23, ma_24, ms_24, ma_25, ms_25, ma_26, ms_26, ma_27, ms_27, ma_28, ms_28, ma_29, ms_29, ma_30, ms_30, ma_31, ms_31, ma_32, ms_32, ma_33, ms_33, ma_34, ms_34, ma_35, ms_35, ma_36, ms_36, ma_37, ms_37, ma_38, ms_38, ma_39, ms_39, ma_40, ms_40, ma_41, ms_41, ma_42, ms_42, ma_43, ms_43, if_true, if_false, Option.bind_some, cb, lt, nI_1, hs_nar2, nh4, upd_at, vau_at, ma_30_18, ms_30_18, ma_31_18, ms_31_18, ma_28_0, ms_28_0, ma_28_1, ms_28_1, ma_28_2, ms_28_2, ma_28_3, ms_28_3, ma_28_4, ms_28_4, ma_42_0, ms_42_0, ma_42_1, ms_42_1, ma_42_2, ms_42_2, ma_36_0, ms_36_0, e18, hs]
      rw [if_pos (nI_le (by omega) (by omega))]
      exact ⟨_, rfl, g1, fun j q1 q2 => by omega, fun _ _ => rfl, fun _ _ => rfl⟩
    | succ k ih =>
      intro i fuel h1 h2 A1 g1 g2
      obtain ⟨fuel, rfl⟩ : ∃ q, fuel = q + 1 := ⟨fuel - 1, by omega⟩
      have e1 := (h5.2 i (by omega)).2.1
      simp only [Nat.zero_add] at e1
      have e2 := g2 (6 + i) (Nat.le_refl _)
      have e18 := g2 18 (by omega)
      rw [fX12_shifts_b2]
      simp (disch := first | assumption | omega | decide | exact And.intro (by omega) (by omega)) only [mck, mg_0, mp_0, mr_1, mg_2, mp_2, mr_3, mg_4, mp_4, mr_5, mr_6, mr_7, mr_8, mr_9, mg_10, mp_10, mg_11, mp_11, mg_12, mp_12, mg_13, mp_13, mg_14, mp_14, mg_15, mp_15, mg_16, mp_16, mg_17, mp_17, mg_18, mp_18, mg_19, mp_19, mg_20, mp_20, mr_21, mr_22, mr_23, mr_24, mr_25, mr_26, mr_27, mr_28, mr_29, mr_30, mr_31, mr_32, mg_33, mp_33, mr_34, mr_35, mr_36, mr_37, mr_38, mg_39, mp_39, mr_40, mr_41, mr_42, mg_43, mp_43, mr_44, mr_45, mg_46, mp_46, mr_47, mr_48, mg_49, mp_49, mg_50, mp_50, mg_51, mp_51, mr_52, mr_53, mr_54, mg_55, mp_55, mr_56, mr_57, mg_58, mp_58, mg_59, mp_59, mg_60, mp_60, mr_61, mg_62, mp_62, mr_63, mr_64, mr_65, mr_66, mr_67, mr_68, ma_1, ms_1, ma_2, ms_2, ma_3, ms_3, ma_4, ms_4, ma_5, ms_5, ma_6, ms_6, ma_7, ms_7, ma_8, ms_8, ma_9, ms_9, ma_10, ms_10, ma_11, ms_11, ma_12, ms_12, ma_13, ms_13, ma_14, ms_14, ma_15, ms_15, ma_16, ms_16, ma_17, ms_17, ma_18, ms_18, ma_19, ms_19, ma_20, ms_20, ma_21, ms_21, ma_22, ms_22, ma_23, ms_23, ma_24, ms_24, ma_25, ms_25, ma_26, ms_26, ma_27, ms_27, ma_28, ms_28, ma_29, ms_29, ma_30, ms_30, ma_31, ms_31, ma_32, ms_32, ma_33, ms_33, ma_34, ms_34, ma_35, ms_35, ma_36, ms_36, ma_37, ms_37, ma_38, ms_38, ma_39, ms_39, ma_40, ms_40, ma_41, ms_41, ma_42, ms_42, ma_43, ms_43, if_true, if_false, Option.bind_some, cb, lt, nI_1, hs_nar2, nh4, upd_at, vau_at, ma_30_18, ms_30_18, ma_31_18, ms_31_18, ma_28_0, ms_28_0, ma_28_1, ms_28_1, ma_28_2, ms_28_2, ma_28_3, ms_28_3, ma_28_4, ms_28_4, ma_42_0, ms_42_0, ma_42_1, ms_42_1, ma_42_2, ms_42_2, ma_36_0, ms_36_0, e18, hs]
      rw [if_neg (nI_ge (by omega) (by omega))]
      simp (disch := first | assumption | omega | decide | exact And.intro (by omega) (by omega)) only [mck, mg_0, mp_0, mr_1, mg_2, mp_2, mr_3, mg_4, mp_4, mr_5, mr_6, mr_7, mr_8, mr_9, mg_10, mp_10, mg_11, mp_11, mg_12, mp_12, mg_13, mp_13, mg_14, mp_14, mg_15, mp_15, mg_16, mp_16, mg_17, mp_17, mg_18, mp_18, mg_19, mp_19, mg_20, mp_20, mr_21, mr_22, mr_23, mr_24, mr_25, mr_26, mr_27, mr_28, mr_29, mr_30, mr_31, mr_32, mg_33, mp_33, mr_34, mr_35, mr_36, mr_37, mr_38, mg_39, mp_39, mr_40, mr_41, mr_42, mg_43, mp_43, mr_44, mr_45, mg_46, mp_46, mr_47, mr_48, mg_49, mp_49, mg_50, mp_50, mg_51, mp_51, mr_52, mr_53, mr_54, mg_55, mp_55, mr_56, mr_57, mg_58, mp_58, mg_59, mp_59, mg_60, mp_60, mr_61, mg_62, mp_62, mr_63, mr_64, mr_65, mr_66, mr_67, mr_68, ma_1, ms_1, ma_2, ms_2, ma_3, ms_3, ma_4, ms_4, ma_5, ms_5, ma_6, ms_6, ma_7, ms_7, ma_8, ms_8, ma_9, ms_9, ma_10, ms_10, ma_11, ms_11, ma_12, ms_12, ma_13, ms_13, ma_14, ms_14, ma_15, ms_15, ma_16, ms_16, ma_17, ms_17, ma_18, ms_18, ma_19, ms_19, ma_20, ms_20, ma_21, ms_21, ma_22, ms_22, ma_23, ms_23, ma_24, ms_24, ma_25, ms_25, ma_26, ms_26, ma_27, ms_27, ma_28, ms_28, ma_29, ms_29, ma_30, ms_30, ma_31, ms_31, ma_32, ms_32, ma_33, ms_33, ma_34, ms_34, ma_35, ms_35, ma_36, ms_36, ma_37, ms_37, ma_38, ms_38, ma_39, ms_39, ma_40, ms_40, ma_41, ms_41, ma_42, ms_42, ma_43, ms_43, if_true, if_false, Option.bind_some, cb, lt, nI_1, hs_nar2, nh4, upd_at, vau_at, ma_30_18, ms_30_18, ma_31_18, ms_31_18, ma_28_0, ms_28_0, ma_28_1, ms_28_1, ma_28_2, ms_28_2, ma_28_3, ms_28_3, ma_28_4, ms_28_4, ma_42_0, ms_42_0, ma_42_1, ms_42_1, ma_42_2, ms_42_2, ma_36_0, ms_36_0, m_add6, e2, e1, iI_add]
      obtain ⟨A', q1, q2, q3, q4, q5⟩ := ih (i + 1) fuel (by omega) (by omega) (va_up A1 31 (upd (A1 31) (6 + i) (iI (P.2.2.1 i + d)))) (fun c hc => by rw [vau_ne hc]; exact g1 c hc) (fun j hj => by rw [vau_at, upd_ne (by omega)]; exact g2 j (by omega))
      refine ⟨A', q1, q2, fun j z1 z2 => ?_, fun j z1 => ?_, fun j z1 => ?_⟩
      · by_cases c : j = i
        · rw [c, q4 (6 + i) (by omega), vau_at, upd_at]
        · exact q3 j (by omega) z2
      · rw [q4 j (by omega), vau_at, upd_ne (by omega)]
      · rw [q5 j (by omega), vau_at, upd_ne (by omega)]
  unfold fX12_shifts
  rw [mck]
  obtain ⟨A', q1, q2, q3, q4, q5⟩ := key (P.1 - lev) lev FU (by omega) (by unfold FU; omega) A (fun _ _ => rfl) (fun _ _ => rfl)
  refine ⟨A', q1, ⟨by rw [Nat.zero_add, q5 18 (by omega)]; exact hs, fun i hi => ?_⟩, q2⟩
  have hi2 : i < P.1 := hi
  have e := h5.2 i hi2
  simp only [Nat.zero_add] at e ⊢
  rw [q4 i (by omega), q5 (12 + i) (by omega)]
  refine ⟨e.1, ?_, e.2.2⟩
  unfold apShift
  dsimp only
  by_cases c : lev ≤ i
  · rw [if_pos c]; exact q3 i c hi2
  · rw [if_neg c, q4 (6 + i) (by omega)]; exact e.2.1
/-! the ring -/
theorem rem50 : ∀ w, w < 50 → hs_rem (nI w + 1) 50 = nI ((w + 1) % 50) := by decide +kernel
theorem rem50b : ∀ w, w < 50 → hs_rem (nI w + 50 - 1) 50 = nI ((w + 49) % 50) := by decide +kernel
def psN (ps : Nat → AP) (u : Nat) (P : AP) : Nat → AP := if u < 50 then (fun j => if j = u + 1 then P else ps j) else (fun j => if j = 50 then P else ps (j + 1))
theorem psN_top {ps : Nat → AP} {u : Nat} {P : AP} (hu : u ≤ 50) : psN ps u P (min (u + 1) 50) = P := by
  unfold psN
  by_cases c : u < 50
  · rw [if_pos c, if_pos (by omega)]
  · rw [if_neg c, if_pos (by omega)]
theorem c_note {F A : Nat → Nat → Int32} (B : Nat → Nat → Int64) (r : Nat → Nat) {u w : Nat} (hu : u ≤ 50) (hw : w < 50) (h0 : F 49 0 = nI u) (h1 : F 49 1 = nI w) (k x y : Int32) {g : Int32} (hg : g = 0 ∨ g = 1) : ∃ F' A', fX4_note 49 k x y g (mkC F A B r) = some ((), mkC F' A' B r) ∧ (F' 49 0 = nI (min (u + 1) 50) ∧ F' 49 1 = nI ((w + 1) % 50) ∧ ∀ c, ¬ c = 49 → F' c = F c) ∧ (A' 50 = upd (A 50) ((w + 1) % 50) k ∧ A' 51 = upd (A 51) ((w + 1) % 50) x ∧ A' 52 = upd (A 52) ((w + 1) % 50) y ∧ A' 53 = upd (A 53) ((w + 1) % 50) g) ∧ ∀ c, ¬ (50 ≤ c ∧ c ≤ 53) → A' c = A c := by
  have hnar := nh4 hg
  have hm : (w + 1) % 50 < 50 := by omega
  have e50 : (50 : Int32) = iI 50 := rfl
  have eu : nI u + 1 = iI ((u : Int) + 1) := iI_add (u : Int) 1
  have hr := rem50 w hw
  unfold fX4_note
  simp (disch := decide) only [cck_4, cg4_1, cp4_1, Option.bind_some, h1, hr]
  have s1 : upd (F 49) 1 (nI ((w + 1) % 50)) 0 = nI u := h0
  simp (disch := first | assumption | omega | decide | exact And.intro (by omega) (by omega)) only [cck_0, cr0_0, cr0_1, cr0_2, cr0_3, cg0_4, cp0_4, cg0_5, cp0_5, cck_1, cg1_0, cp1_0, cr1_1, cr1_2, cr1_3, cg1_4, cp1_4, cg1_5, cp1_5, cr1_6, cr1_7, cck_2, cr2_0, cr2_1, cr2_2, cck_3, cr3_0, cr3_1, cg3_2, cp3_2, cg3_3, cp3_3, cg3_4, cp3_4, cg3_5, cp3_5, cg3_6, cp3_6, cg3_7, cp3_7, cg3_8, cp3_8, cck_4, cg4_0, cp4_0, cg4_1, cp4_1, cr4_2, cr4_3, cr4_4, cr4_5, cck_5, cg5_0, cp5_0, cr5_1, cr5_2, cr5_3, cck_6, cg6_0, cp6_0, cg6_1, cp6_1, cck_7, cg7_0, cp7_0, cg7_1, cp7_1, cr7_2, cr7_3, cr7_4, cr7_5, cr7_6, cr7_7, cr7_8, cck_8, cr8_0, cr8_1, cck_9, cr9_0, cr9_1, cr9_2, cr9_3, cg9_4, cp9_4, cck_10, cg10_0, cp10_0, cr10_1, cr10_2, cr10_3, cr10_4, cg10_5, cp10_5, cr10_6, cr10_7, cr10_8, cg10_9, cp10_9, cg10_10, cp10_10, cr10_11, cr10_12, cr10_13, cr10_14, cck_11, cr11_0, cg11_1, cp11_1, cr11_2, cr11_3, cr11_4, cr11_5, cr11_6, cr11_7, cr11_8, cr11_9, cr11_10, cr11_11, cr11_12, cr11_13, cr11_14, ca_30, cs_30, ca_31, cs_31, ca_32, cs_32, ca_33, cs_33, ca_34, cs_34, ca_35, cs_35, ca_36, cs_36, ca_37, cs_37, ca_38, cs_38, ca_39, cs_39, ca_40, cs_40, ca_41, cs_41, ca_42, cs_42, car_20, car_21, car_22, cq11_3, cq11_4, cq3_1, cq0_0, cq0_1, if_true, if_false, Option.bind_some, cb, lt, nI_1, hs_nar2, nh4, upd_at, vau_at, ca_42_0, cs_42_0, hnar, vau_ne, s1]
  rw [show nI (u + 1) = iI ((u : Int) + 1) from rfl, e50, c_min ⟨by decide, by decide⟩ ⟨by omega, by omega⟩]
  simp only [Option.bind_some]
  simp (disch := first | assumption | omega | decide | exact And.intro (by omega) (by omega)) only [cck_0, cr0_0, cr0_1, cr0_2, cr0_3, cg0_4, cp0_4, cg0_5, cp0_5, cck_1, cg1_0, cp1_0, cr1_1, cr1_2, cr1_3, cg1_4, cp1_4, cg1_5, cp1_5, cr1_6, cr1_7, cck_2, cr2_0, cr2_1, cr2_2, cck_3, cr3_0, cr3_1, cg3_2, cp3_2, cg3_3, cp3_3, cg3_4, cp3_4, cg3_5, cp3_5, cg3_6, cp3_6, cg3_7, cp3_7, cg3_8, cp3_8, cck_4, cg4_0, cp4_0, cg4_1, cp4_1, cr4_2, cr4_3, cr4_4, cr4_5, cck_5, cg5_0, cp5_0, cr5_1, cr5_2, cr5_3, cck_6, cg6_0, cp6_0, cg6_1, cp6_1, cck_7, cg7_0, cp7_0, cg7_1, cp7_1, cr7_2, cr7_3, cr7_4, cr7_5, cr7_6, cr7_7, cr7_8, cck_8, cr8_0, cr8_1, cck_9, cr9_0, cr9_1, cr9_2, cr9_3, cg9_4, cp9_4, cck_10, cg10_0, cp10_0, cr10_1, cr10_2, cr10_3, cr10_4, cg10_5, cp10_5, cr10_6, cr10_7, cr10_8, cg10_9, cp10_9, cg10_10, cp10_10, cr10_11, cr10_12, cr10_13, cr10_14, cck_11, cr11_0, cg11_1, cp11_1, cr11_2, cr11_3, cr11_4, cr11_5, cr11_6, cr11_7, cr11_8, cr11_9, cr11_10, cr11_11, cr11_12, cr11_13, cr11_14, ca_30, cs_30, ca_31, cs_31, ca_32, cs_32, ca_33, cs_33, ca_34, cs_34, ca_35, cs_35, ca_36, cs_36, ca_37, cs_37, ca_38, cs_38, ca_39, cs_39, ca_40, cs_40, ca_41, cs_41, ca_42, cs_42, car_20, car_21, car_22, cq11_3, cq11_4, cq3_1, cq0_0, cq0_1, if_true, if_false, Option.bind_some, cb, lt, nI_1, hs_nar2, nh4, upd_at, vau_at, ca_42_0, cs_42_0]
  refine ⟨_, _, rfl, ⟨?_, ?_, fun c hc => ?_⟩, ⟨?_, ?_, ?_, ?_⟩, fun c hc => ?_⟩
  · rw [vau_at, upd_at, iI_nI]
    congr 1
    omega
  · rw [vau_at, upd_ne (by decide), upd_at]
  · rw [vau_ne hc, vau_ne hc]
  · rw [vau_ne (by decide), vau_ne (by decide), vau_ne (by decide), vau_at]
  · rw [vau_ne (by decide), vau_ne (by decide), vau_at]
  · rw [vau_ne (by decide), vau_at]
  · rw [vau_at]
  · rw [vau_ne (by omega), vau_ne (by omega), vau_ne (by omega), vau_ne (by omega)]
theorem ring_push {A A' : Nat → Nat → Int32} {w u : Nat} {ps : Nat → AP} (h : Ring A w u ps) (hu : u ≤ 50) (hw : w < 50) {k x y g : Int32} {P : AP} (e0 : A' 50 = upd (A 50) ((w + 1) % 50) k) (e1 : A' 51 = upd (A 51) ((w + 1) % 50) x) (e2 : A' 52 = upd (A 52) ((w + 1) % 50) y) (e3 : A' 53 = upd (A 53) ((w + 1) % 50) g) (hU : Undone k x y g P (ps u)) : Ring A' ((w + 1) % 50) (min (u + 1) 50) (psN ps u P) := by
  intro j hj
  rw [e0, e1, e2, e3]
  unfold psN
  by_cases c : u < 50
  · rw [if_pos c]
    by_cases c2 : j = u
    · rw [show ((w + 1) % 50 + 50 - (min (u + 1) 50 - 1 - j)) % 50 = (w + 1) % 50 by omega, upd_at, upd_at, upd_at, upd_at, if_pos (by omega), if_neg (by omega), c2]
      exact hU
    · have e : ((w + 1) % 50 + 50 - (min (u + 1) 50 - 1 - j)) % 50 = (w + 50 - (u - 1 - j)) % 50 := by omega
      have e' : ¬ (w + 50 - (u - 1 - j)) % 50 = (w + 1) % 50 := by omega
      rw [e, upd_ne e', upd_ne e', upd_ne e', upd_ne e', if_neg (by omega), if_neg (by omega)]
      exact h j (by omega)
  · rw [if_neg c]
    have hu2 : u = 50 := by omega
    subst hu2
    by_cases c2 : j = 49
    · rw [show ((w + 1) % 50 + 50 - (min (50 + 1) 50 - 1 - j)) % 50 = (w + 1) % 50 by omega, upd_at, upd_at, upd_at, upd_at, if_pos (by omega), if_neg (by omega), c2]
      exact hU
    · have e : ((w + 1) % 50 + 50 - (min (50 + 1) 50 - 1 - j)) % 50 = (w + 50 - (50 - 1 - (j + 1))) % 50 := by omega
      have e' : ¬ (w + 50 - (50 - 1 - (j + 1))) % 50 = (w + 1) % 50 := by omega
      rw [e, upd_ne e', upd_ne e', upd_ne e', upd_ne e', if_neg (by omega), if_neg (by omega)]
      exact h (j + 1) (by omega)
