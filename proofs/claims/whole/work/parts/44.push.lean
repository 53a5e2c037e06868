/-! ===== pushed ===== -/
def pshS (T : TD) (lev : Nat) : Nat → AP → AP
  | 0, P => P
  | k + 1, P => if st0 T (apShift P lev 1) lev then pshS T lev k (apShift P lev 1) else apShift (apShift P lev 1) lev (-1)
def pshA (T : TD) : Nat → AP → AP
  | 0, P => P
  | k + 1, P => pshA T k (if st0 T P k then pshS T k 200 P else P)
theorem pshS_1 (T : TD) (lev : Nat) : ∀ k P, (pshS T lev k P).1 = P.1
  | 0, P => rfl
  | k + 1, P => by
    unfold pshS
    split
    · rw [pshS_1 T lev k]; rfl
    · rfl
theorem pshS_pb {nb : Nat} {L : Int} (T : TD) (lev : Nat) : ∀ (k : Nat) (P : AP) (U : Int), PB nb L U P → PB nb L (U + k) (pshS T lev k P)
  | 0, P, U, h => by
    have : U + ((0 : Nat) : Int) = U := by omega
    rw [this]; exact h
  | k + 1, P, U, h => by
    unfold pshS
    split
    · have := pshS_pb T lev k _ _ (h.up (lev := lev))
      exact this.mono (Int.le_refl _) (by omega)
    · exact (h.updown (lev := lev)).mono (Int.le_refl _) (by omega)
theorem m_standsNow {F : Nat → Int32} {A : Nat → Nat → Int32} (B : Nat → Nat → Int64) {lv : Nat} {T : TD} {P : AP} {ma : Int} (hR : MRow F A lv T tr0 P) (hM : More F (-1) 0 ma) {i : Nat} (hi : i < P.1) : ∃ F' A' B', fX12_isStandingNow 0 (nI i) (mkM F A B) = some (b2 (st0 T P i), mkM F' A' B') ∧ MS F F' A A' B B' := by
  obtain ⟨F1, A1, B1, h1, h2, h3⟩ := m_fillsLoads B hR hM
  have h4 := m_isStanding (hR.ms h2) (hM.ms h2) h3 hi
  have e : stB T P (ld T tr0 (-1) 0 P i) (mo T tr0 (-1) 0 ma P i) i = st0 T P i := congrFun (stands_eq (T := T) (P := P) ma) i
  rw [e] at h4
  refine ⟨F1, A1, B1, ?_, h2⟩
  unfold fX12_isStandingNow
  simp -implicitDefEqProofs (disch := first | assumption | omega | decide | exact And.intro (by omega) (by omega)) only [mck, mg_0, mp_0, mr_1, mg_2, mp_2, mr_3, mg_4, mp_4, mr_5, mr_6, mr_7, mr_8, mr_9, mg_10, mp_10, mg_11, mp_11, mg_12, mp_12, mg_13, mp_13, mg_14, mp_14, mg_15, mp_15, mg_16, mp_16, mg_17, mp_17, mg_18, mp_18, mg_19, mp_19, mg_20, mp_20, mr_21, mr_22, mr_23, mr_24, mr_25, mr_26, mr_27, mr_28, mr_29, mr_30, mr_31, mr_32, mg_33, mp_33, mr_34, mr_35, mr_36, mr_37, mr_38, mg_39, mp_39, mr_40, mr_41, mr_42, mg_43, mp_43, mr_44, mr_45, mg_46, mp_46, mr_47, mr_48, mg_49, mp_49, mg_50, mp_50, mg_51, mp_51, mr_52, mr_53, mr_54, mg_55, mp_55, mr_56, mr_57, mg_58, mp_58, mg_59, mp_59, mg_60, mp_60, mr_61, mg_62, mp_62, mr_63, mr_64, mr_65, mr_66, mr_67, mr_68, ma_1, ms_1, ma_2, ms_2, ma_3, ms_3, ma_4, ms_4, ma_5, ms_5, ma_6, ms_6, ma_7, ms_7, ma_8, ms_8, ma_9, ms_9, ma_10, ms_10, ma_11, ms_11, ma_12, ms_12, ma_13, ms_13, ma_14, ms_14, ma_15, ms_15, ma_16, ms_16, ma_17, ms_17, ma_18, ms_18, ma_19, ms_19, ma_20, ms_20, ma_21, ms_21, ma_22, ms_22, ma_23, ms_23, ma_24, ms_24, ma_25, ms_25, ma_26, ms_26, ma_27, ms_27, ma_28, ms_28, ma_29, ms_29, ma_30, ms_30, ma_31, ms_31, ma_32, ms_32, ma_33, ms_33, ma_34, ms_34, ma_35, ms_35, ma_36, ms_36, ma_37, ms_37, ma_38, ms_38, ma_39, ms_39, ma_40, ms_40, ma_41, ms_41, ma_42, ms_42, ma_43, ms_43, if_true, if_false, Option.bind_some, cb_e, lt_e, nI_1, hs_nar2, nh4, upd_at, vau_at, ma_30_18, ms_30_18, ma_31_18, ms_31_18, ma_28_0, ms_28_0, ma_28_1, ms_28_1, ma_28_2, ms_28_2, ma_28_3, ms_28_3, ma_28_4, ms_28_4, ma_42_0, ms_42_0, ma_42_1, ms_42_1, ma_42_2, ms_42_2, ma_36_0, ms_36_0, h1, h4, rZ_b2]
theorem c_standsNow {t : Nat} {T : TD} {P : AP} {F A : Nat → Nat → Int32} (B : Nat → Nat → Int64) (r : Nat → Nat) (hR : CRow F A t T 42 P) {i : Nat} (hi : i < P.1) : ∃ A' r', fX0_weigh 46 t 42 (mkC F A B r) = some ((), mkC F A' B r') ∧ fX0_levelStands 46 (nI i) (mkC F A' B r') = some (b2 (st0 T P i), mkC F A' B r') ∧ CS t A A' r r' := by
  obtain ⟨A', r', h1, h2, h3, h4, h5⟩ := c_weigh B r hR
  exact ⟨A', r', h1, c_levelStands (hR.cs h2) h3 h4 h5 hi, h2⟩
/-- one level's way to the right, the model -/
theorem m_psh {lv : Nat} {T : TD} {lev : Nat} {ma : Int} (K : Nat → Int32 → Int32 → Sto → Option (Int32 × Sto)) (wh : Int32) : ∀ (k n fuel : Nat) (P : AP) (U : Int), n + k = 200 → k + 1 < fuel → PB (tNb T) (-999) U P → U + k ≤ 2199 → lev < P.1 → ∀ {F : Nat → Int32} {A : Nat → Nat → Int32} {B : Nat → Nat → Int64}, MRow F A lv T tr0 P → More F (-1) 0 ma → ∃ F' A' B', fX12_pushed_b45 K fuel 0 wh (nI lev) (nI n) 1 (mkM F A B) = K 0 wh (nI lev + (-1)) (mkM F' A' B') ∧ MC F F' A A' B B' ∧ MRow F' A' lv T tr0 (pshS T lev k P) ∧ More F' (-1) 0 ma := by
  have n10 : ¬ (1 : Int32) = 0 := by decide
  intro k
  induction k with
  | zero =>
    intro n fuel P U h1 h2 hP hU hl F A B hR hM
    obtain ⟨fuel, rfl⟩ : ∃ q, fuel = q + 1 := ⟨fuel - 1, by omega⟩
    have : n = 200 := by omega
    subst this
    rw [fX12_pushed_b45, if_neg n10, if_pos (by decide)]
    unfold fX12_pushed_b76 fX12_pushed_b87
    rw [if_neg n10]
    exact ⟨F, A, B, rfl, MC.rf, hR, hM⟩
  | succ k ih =>
    intro n fuel P U h1 h2 hP hU hl F A B hR hM
    obtain ⟨fuel, rfl⟩ : ∃ q, fuel = q + 1 := ⟨fuel - 1, by omega⟩
    have h6 := hP.1
    rw [fX12_pushed_b45, if_neg n10, if_neg (show ¬ (200 : Int32) ≤ nI n from nI_ge (b := 200) (by omega) (by decide))]
    obtain ⟨A1, q1, q2, q3⟩ := m_shifts (F := F) (B := B) h6 (lev := lev) (by omega) 1 hR.2.2.1.1
    have hP1 := hP.up (lev := lev)
    have hR1 := hR.row q3 q2 (hP1.big (by omega) (by omega))
    obtain ⟨F2, A2, B2, r1, r2⟩ := m_standsNow B hR1 hM (i := lev) hl
    have hR2 := hR1.ms r2
    have hM2 := hM.ms r2
    have mc : MC F F2 A A2 B B2 := MC.tr (⟨fun _ _ _ _ _ => rfl, fun c _ _ h3 _ => q3 c h3, fun _ _ _ => rfl⟩ : MC F F A A1 B B) r2.mc
    have e1 : (1 : Int32) = iI 1 := rfl
    rw [← e1] at q1
    rw [q1]
    simp only [cb, Option.bind_some]
    rw [r1]
    simp only [Option.bind_some, nI_1]
    rw [pshS]
    rcases Bool.eq_false_or_eq_true (st0 T (apShift P lev 1) lev) with c | c
    · simp only [c, if_true]
      obtain ⟨F3, A3, B3, s1, s2, s3, s4⟩ := ih (n + 1) fuel (apShift P lev 1) (U + 1) (by omega) (by omega) hP1 (by omega) hl hR2 hM2
      exact ⟨F3, A3, B3, s1, mc.tr s2, s3, s4⟩
    · simp only [c]
      obtain ⟨fuel, rfl⟩ : ∃ q, fuel = q + 1 := ⟨fuel - 1, by omega⟩
      rw [fX12_pushed_b45, if_pos (show b2 false = 0 by decide)]
      unfold fX12_pushed_b76 fX12_pushed_b87
      rw [if_pos (show b2 false = 0 by decide)]
      obtain ⟨A3, s1, s2, s3⟩ := m_shifts (F := F2) (B := B2) (P := apShift P lev 1) h6 (lev := lev) (Nat.le_of_lt hl) (-1) hR2.2.2.1.1
      rw [← m1_iI] at s1
      rw [s1]
      simp only [cb, Option.bind_some]
      exact ⟨F2, A3, B2, rfl, mc.tr ⟨fun _ _ _ _ _ => rfl, fun c _ _ h3 _ => s3 c h3, fun _ _ _ => rfl⟩, hR2.row s3 s2 ((hP.updown (lev := lev)).big (by omega) (by omega)), hM2⟩
/-- the same of the class -/
theorem c_psh {t : Nat} {T : TD} {lev : Nat} {B : Nat → Nat → Int64} : ∀ (k n fuel : Nat) (P : AP) (U : Int), n + k = 200 → k + 1 < fuel → PB (tNb T) (-999) U P → U + k ≤ 2199 → lev < P.1 → ∀ {F A : Nat → Nat → Int32} {r : Nat → Nat}, CRow F A t T 42 P → r 0 = t → ∃ A' r', fX11_pushRight_b26 fuel 0 (nI lev) 1 (nI (n + 1)) (mkC F A B r) = some ((), mkC F A' B r') ∧ CT t F F A A' r r' ∧ CRow F A' t T 42 (pshS T lev k P) := by
  have n10 : ¬ (1 : Int32) = 0 := by decide
  intro k
  induction k with
  | zero =>
    intro n fuel P U h1 h2 hP hU hl F A r hR hr
    obtain ⟨fuel, rfl⟩ : ∃ q, fuel = q + 1 := ⟨fuel - 1, by omega⟩
    have : n = 200 := by omega
    subst this
    rw [fX11_pushRight_b26, if_pos (by decide)]
    exact ⟨A, r, rfl, CT.rf, hR⟩
  | succ k ih =>
    intro n fuel P U h1 h2 hP hU hl F A r hR hr
    obtain ⟨fuel, rfl⟩ : ∃ q, fuel = q + 1 := ⟨fuel - 1, by omega⟩
    have h6 := hP.1
    rw [fX11_pushRight_b26, if_neg (show ¬ (200 : Int32) < nI (n + 1) from nI_nlt (a := 200) (b := n + 1) (by omega) (by decide)), if_neg n10]
    obtain ⟨A1, q1, q2, q3⟩ := c_shift (F := F) B r (PA_of (Or.inr rfl)) h6 (lev := lev) (by omega) 1 hR.2.2.2.1
    have hP1 := hP.up (lev := lev)
    have hR1 := hR.row q3 q2 (hP1.big (by omega) (by omega))
    obtain ⟨A2, r2, s1, s2, s3⟩ := c_standsNow B r hR1 (i := lev) hl
    have hR2 := hR1.cs s3
    have hr2 : r2 0 = t := (s3.2 0 (by decide) (by decide)).trans hr
    have ct : CT t F F A A2 r r2 := q3.ct.tr s3.ct
    have e1 : (1 : Int32) = iI 1 := rfl
    rw [← e1] at q1
    simp -implicitDefEqProofs (disch := first | assumption | omega | decide | exact And.intro (by omega) (by omega)) only [cck_0, cr0_0, cr0_1, cr0_2, cr0_3, cg0_4, cp0_4, cg0_5, cp0_5, cck_1, cg1_0, cp1_0, cr1_1, cr1_2, cr1_3, cg1_4, cp1_4, cg1_5, cp1_5, cr1_6, cr1_7, cck_2, cr2_0, cr2_1, cr2_2, cck_3, cr3_0, cr3_1, cg3_2, cp3_2, cg3_3, cp3_3, cg3_4, cp3_4, cg3_5, cp3_5, cg3_6, cp3_6, cg3_7, cp3_7, cg3_8, cp3_8, cck_4, cg4_0, cp4_0, cg4_1, cp4_1, cr4_2, cr4_3, cr4_4, cr4_5, cck_5, cg5_0, cp5_0, cr5_1, cr5_2, cr5_3, cck_6, cg6_0, cp6_0, cg6_1, cp6_1, cck_7, cg7_0, cp7_0, cg7_1, cp7_1, cr7_2, cr7_3, cr7_4, cr7_5, cr7_6, cr7_7, cr7_8, cck_8, cr8_0, cr8_1, cck_9, cr9_0, cr9_1, cr9_2, cr9_3, cg9_4, cp9_4, cck_10, cg10_0, cp10_0, cr10_1, cr10_2, cr10_3, cr10_4, cg10_5, cp10_5, cr10_6, cr10_7, cr10_8, cg10_9, cp10_9, cg10_10, cp10_10, cr10_11, cr10_12, cr10_13, cr10_14, cck_11, cr11_0, cg11_1, cp11_1, cr11_2, cr11_3, cr11_4, cr11_5, cr11_6, cr11_7, cr11_8, cr11_9, cr11_10, cr11_11, cr11_12, cr11_13, cr11_14, ca_30, cs_30, ca_31, cs_31, ca_32, cs_32, ca_33, cs_33, ca_34, cs_34, ca_35, cs_35, ca_36, cs_36, ca_37, cs_37, ca_38, cs_38, ca_39, cs_39, ca_40, cs_40, ca_41, cs_41, ca_42, cs_42, car_20, car_21, car_22, cq11_3, cq11_4, cq3_1, cq0_0, cq0_1, if_true, if_false, Option.bind_some, cb_e, lt_e, nI_1, hs_nar2, nh4, upd_at, vau_at, ca_42_0, cs_42_0, q1, hr, s1, s2]
    rw [pshS]
    rcases Bool.eq_false_or_eq_true (st0 T (apShift P lev 1) lev) with c | c
    · simp only [c, if_true]
      rw [if_neg (show ¬ b2 true = 0 by decide)]
      unfold fX11_pushRight_b83
      rw [nI_1]
      obtain ⟨A3, r3, z1, z2, z3⟩ := ih (n + 1) fuel (apShift P lev 1) (U + 1) (by omega) (by omega) hP1 (by omega) hl hR2 hr2
      exact ⟨A3, r3, z1, ct.tr z2, z3⟩
    · simp only [c]
      rw [if_pos (show b2 false = 0 by decide)]
      obtain ⟨A3, z1, z2, z3⟩ := c_shift (F := F) B r2 (PA_of (Or.inr rfl)) (P := apShift P lev 1) h6 (lev := lev) (Nat.le_of_lt hl) (-1) hR2.2.2.2.1
      rw [← m1_iI] at z1
      rw [z1]
      simp only [Option.bind_some]
      unfold fX11_pushRight_b83
      obtain ⟨fuel, rfl⟩ : ∃ q, fuel = q + 1 := ⟨fuel - 1, by omega⟩
      rw [fX11_pushRight_b26]
      have fin : (if (200 : Int32) < nI (n + 1) + 1 then some ((), mkC F A3 B r2) else if b2 false = 0 then some ((), mkC F A3 B r2) else (none : Option (Unit × Sto))) = some ((), mkC F A3 B r2) := by
        split
        · rfl
        · exact if_pos rfl
      refine ⟨A3, r2, ?_, ct.tr z3.ct, hR2.row z3 z2 ((hP.updown (lev := lev)).big (by omega) (by omega))⟩
      by_cases c5 : (200 : Int32) < nI (n + 1) + 1
      · rw [if_pos c5]
      · rw [if_neg c5, if_pos (show b2 false = 0 by decide)]
theorem c_pushRight {t : Nat} {T : TD} {lev : Nat} (B : Nat → Nat → Int64) {P : AP} {U : Int} (hP : PB (tNb T) (-999) U P) (hU : U + 200 ≤ 2199) (hl : lev < P.1) {F A : Nat → Nat → Int32} {r : Nat → Nat} (hR : CRow F A t T 42 P) (hr : r 0 = t) : ∃ A' r', fX11_pushRight 0 (nI lev) (mkC F A B r) = some ((), mkC F A' B r') ∧ CT t F F A A' r r' ∧ CRow F A' t T 42 (if st0 T P lev then pshS T lev 200 P else P) := by
  obtain ⟨A2, r2, s1, s2, s3⟩ := c_standsNow B r hR (i := lev) hl
  have hR2 := hR.cs s3
  have hr2 : r2 0 = t := (s3.2 0 (by decide) (by decide)).trans hr
  rcases Bool.eq_false_or_eq_true (st0 T P lev) with c | c
  · obtain ⟨A3, r3, z1, z2, z3⟩ := c_psh (T := T) (t := t) (lev := lev) (B := B) 200 0 FU P U (by omega) (by decide) hP (by omega) hl hR2 hr2
    refine ⟨A3, r3, ?_, s3.ct.tr z2, by rw [c, if_pos rfl]; exact z3⟩
    unfold fX11_pushRight
    simp -implicitDefEqProofs (disch := first | assumption | omega | decide | exact And.intro (by omega) (by omega)) only [cck_0, cr0_0, cr0_1, cr0_2, cr0_3, cg0_4, cp0_4, cg0_5, cp0_5, cck_1, cg1_0, cp1_0, cr1_1, cr1_2, cr1_3, cg1_4, cp1_4, cg1_5, cp1_5, cr1_6, cr1_7, cck_2, cr2_0, cr2_1, cr2_2, cck_3, cr3_0, cr3_1, cg3_2, cp3_2, cg3_3, cp3_3, cg3_4, cp3_4, cg3_5, cp3_5, cg3_6, cp3_6, cg3_7, cp3_7, cg3_8, cp3_8, cck_4, cg4_0, cp4_0, cg4_1, cp4_1, cr4_2, cr4_3, cr4_4, cr4_5, cck_5, cg5_0, cp5_0, cr5_1, cr5_2, cr5_3, cck_6, cg6_0, cp6_0, cg6_1, cp6_1, cck_7, cg7_0, cp7_0, cg7_1, cp7_1, cr7_2, cr7_3, cr7_4, cr7_5, cr7_6, cr7_7, cr7_8, cck_8, cr8_0, cr8_1, cck_9, cr9_0, cr9_1, cr9_2, cr9_3, cg9_4, cp9_4, cck_10, cg10_0, cp10_0, cr10_1, cr10_2, cr10_3, cr10_4, cg10_5, cp10_5, cr10_6, cr10_7, cr10_8, cg10_9, cp10_9, cg10_10, cp10_10, cr10_11, cr10_12, cr10_13, cr10_14, cck_11, cr11_0, cg11_1, cp11_1, cr11_2, cr11_3, cr11_4, cr11_5, cr11_6, cr11_7, cr11_8, cr11_9, cr11_10, cr11_11, cr11_12, cr11_13, cr11_14, ca_30, cs_30, ca_31, cs_31, ca_32, cs_32, ca_33, cs_33, ca_34, cs_34, ca_35, cs_35, ca_36, cs_36, ca_37, cs_37, ca_38, cs_38, ca_39, cs_39, ca_40, cs_40, ca_41, cs_41, ca_42, cs_42, car_20, car_21, car_22, cq11_3, cq11_4, cq3_1, cq0_0, cq0_1, if_true, if_false, Option.bind_some, cb_e, lt_e, nI_1, hs_nar2, nh4, upd_at, vau_at, ca_42_0, cs_42_0, hr, s1, s2, c]
    exact z1
  · refine ⟨A2, r2, ?_, s3.ct, by rw [c, if_neg (by decide)]; exact hR2⟩
    unfold fX11_pushRight
    simp -implicitDefEqProofs (disch := first | assumption | omega | decide | exact And.intro (by omega) (by omega)) only [cck_0, cr0_0, cr0_1, cr0_2, cr0_3, cg0_4, cp0_4, cg0_5, cp0_5, cck_1, cg1_0, cp1_0, cr1_1, cr1_2, cr1_3, cg1_4, cp1_4, cg1_5, cp1_5, cr1_6, cr1_7, cck_2, cr2_0, cr2_1, cr2_2, cck_3, cr3_0, cr3_1, cg3_2, cp3_2, cg3_3, cp3_3, cg3_4, cp3_4, cg3_5, cp3_5, cg3_6, cp3_6, cg3_7, cp3_7, cg3_8, cp3_8, cck_4, cg4_0, cp4_0, cg4_1, cp4_1, cr4_2, cr4_3, cr4_4, cr4_5, cck_5, cg5_0, cp5_0, cr5_1, cr5_2, cr5_3, cck_6, cg6_0, cp6_0, cg6_1, cp6_1, cck_7, cg7_0, cp7_0, cg7_1, cp7_1, cr7_2, cr7_3, cr7_4, cr7_5, cr7_6, cr7_7, cr7_8, cck_8, cr8_0, cr8_1, cck_9, cr9_0, cr9_1, cr9_2, cr9_3, cg9_4, cp9_4, cck_10, cg10_0, cp10_0, cr10_1, cr10_2, cr10_3, cr10_4, cg10_5, cp10_5, cr10_6, cr10_7, cr10_8, cg10_9, cp10_9, cg10_10, cp10_10, cr10_11, cr10_12, cr10_13, cr10_14, cck_11, cr11_0, cg11_1, cp11_1, cr11_2, cr11_3, cr11_4, cr11_5, cr11_6, cr11_7, cr11_8, cr11_9, cr11_10, cr11_11, cr11_12, cr11_13, cr11_14, ca_30, cs_30, ca_31, cs_31, ca_32, cs_32, ca_33, cs_33, ca_34, cs_34, ca_35, cs_35, ca_36, cs_36, ca_37, cs_37, ca_38, cs_38, ca_39, cs_39, ca_40, cs_40, ca_41, cs_41, ca_42, cs_42, car_20, car_21, car_22, cq11_3, cq11_4, cq3_1, cq0_0, cq0_1, if_true, if_false, Option.bind_some, cb_e, lt_e, nI_1, hs_nar2, nh4, upd_at, vau_at, ca_42_0, cs_42_0, hr, s1, s2, c]
    rw [show FU = 99999 + 1 from rfl, fX11_pushRight_b26, if_neg (by decide), if_pos (show b2 false = 0 by decide)]
theorem m_pushed {lv : Nat} {T : TD} {ma : Int} (wh : Int32) : ∀ (k fuel : Nat) (P : AP) (U : Int), k < fuel → PB (tNb T) (-999) U P → U + 200 * k ≤ 2199 → k ≤ P.1 → ∀ {F : Nat → Int32} {A : Nat → Nat → Int32} {B : Nat → Nat → Int64}, MRow F A lv T tr0 P → More F (-1) 0 ma → ∃ F' A' B', fX12_pushed_b25 fuel 0 wh (iI ((k : Int) - 1)) (mkM F A B) = fX12_pushed_b93 0 wh (mkM F' A' B') ∧ MC F F' A A' B B' ∧ MRow F' A' lv T tr0 (pshA T k P) ∧ More F' (-1) 0 ma := by
  intro k
  induction k with
  | zero =>
    intro fuel P U h2 hP hU hl F A B hR hM
    obtain ⟨fuel, rfl⟩ : ∃ q, fuel = q + 1 := ⟨fuel - 1, by omega⟩
    rw [fX12_pushed_b25, if_pos (by rw [iI_lt0 ⟨by omega, by omega⟩]; omega)]
    exact ⟨F, A, B, rfl, MC.rf, hR, hM⟩
  | succ k ih =>
    intro fuel P U h2 hP hU hl F A B hR hM
    obtain ⟨fuel, rfl⟩ : ∃ q, fuel = q + 1 := ⟨fuel - 1, by omega⟩
    have h6 := hP.1
    rw [fX12_pushed_b25, if_neg (by rw [iI_lt0 ⟨by omega, by omega⟩]; omega)]
    have ek : iI (((k + 1 : Nat) : Int) - 1) = nI k := by rw [iI_nI]; congr 1; omega
    have ek2 : nI k + (-1 : Int32) = iI ((k : Int) - 1) := by
      rw [iI_nI, m1_iI, iI_add]
      rfl
    rw [ek]
    obtain ⟨F2, A2, B2, r1, r2⟩ := m_standsNow B hR hM (i := k) (by omega)
    rw [r1]
    simp only [cb, Option.bind_some]
    rw [pshA]
    rcases Bool.eq_false_or_eq_true (st0 T P k) with c | c
    · simp only [c, if_true]
      rw [if_neg (show ¬ b2 true = 0 by decide)]
      obtain ⟨F3, A3, B3, s1, s2, s3, s4⟩ := m_psh (lv := lv) (T := T) (lev := k) (ma := ma) (fX12_pushed_b25 fuel) wh 200 0 FU P U (by omega) (by decide) hP (by omega) (by omega) (hR.ms r2) (hM.ms r2) (B := B2)
      rw [ek2] at s1
      rw [show (0 : Int32) = nI 0 from rfl, s1]
      obtain ⟨F4, A4, B4, z1, z2, z3, z4⟩ := ih fuel (pshS T k 200 P) (U + 200) (by omega) (pshS_pb T k 200 P U hP) (by omega) (by rw [pshS_1]; omega) s3 s4 (B := B3)
      exact ⟨F4, A4, B4, z1, (r2.mc.tr s2).tr z2, z3, z4⟩
    · simp only [c]
      rw [if_pos (show b2 false = 0 by decide)]
      unfold fX12_pushed_b87
      rw [ek2]
      obtain ⟨F4, A4, B4, z1, z2, z3, z4⟩ := ih fuel P U (by omega) hP (by omega) (by omega) (hR.ms r2) (hM.ms r2) (B := B2)
      exact ⟨F4, A4, B4, z1, r2.mc.tr z2, z3, z4⟩
theorem c_pushed {t : Nat} {T : TD} {B : Nat → Nat → Int64} (wh : Int32) : ∀ (k fuel : Nat) (P : AP) (U : Int), k < fuel → PB (tNb T) (-999) U P → U + 200 * k ≤ 2199 → k ≤ P.1 → ∀ {F A : Nat → Nat → Int32} {r : Nat → Nat}, CRow F A t T 42 P → r 0 = t → ∃ A' r', fX11_pushed_b32 fuel 0 wh (iI ((k : Int) - 1)) (mkC F A B r) = fX11_pushed_b47 0 wh (mkC F A' B r') ∧ CT t F F A A' r r' ∧ CRow F A' t T 42 (pshA T k P) := by
  intro k
  induction k with
  | zero =>
    intro fuel P U h2 hP hU hl F A r hR hr
    obtain ⟨fuel, rfl⟩ : ∃ q, fuel = q + 1 := ⟨fuel - 1, by omega⟩
    rw [fX11_pushed_b32, if_pos (by rw [iI_lt0 ⟨by omega, by omega⟩]; omega)]
    exact ⟨A, r, rfl, CT.rf, hR⟩
  | succ k ih =>
    intro fuel P U h2 hP hU hl F A r hR hr
    obtain ⟨fuel, rfl⟩ : ∃ q, fuel = q + 1 := ⟨fuel - 1, by omega⟩
    have h6 := hP.1
    rw [fX11_pushed_b32, if_neg (by rw [iI_lt0 ⟨by omega, by omega⟩]; omega)]
    have ek : iI (((k + 1 : Nat) : Int) - 1) = nI k := by rw [iI_nI]; congr 1; omega
    have ek2 : nI k + (-1 : Int32) = iI ((k : Int) - 1) := by
      rw [iI_nI, m1_iI, iI_add]
      rfl
    rw [ek, ek2]
    obtain ⟨A2, r2, s1, s2, s3⟩ := c_pushRight B hP (by omega) (show k < P.1 by omega) hR hr
    rw [s1]
    simp only [cb, Option.bind_some]
    rw [pshA]
    have hr2 : r2 0 = t := (s2.2.2 0 (by decide) (by decide)).trans hr
    rcases Bool.eq_false_or_eq_true (st0 T P k) with c | c
    · simp only [c, if_true] at s3 ⊢
      obtain ⟨A4, r4, z1, z2, z3⟩ := ih fuel (pshS T k 200 P) (U + 200) (by omega) (pshS_pb T k 200 P U hP) (by omega) (by rw [pshS_1]; omega) s3 hr2
      exact ⟨A4, r4, z1, s2.tr z2, z3⟩
    · simp only [c] at s3 ⊢
      obtain ⟨A4, r4, z1, z2, z3⟩ := ih fuel P U (by omega) hP (by omega) (by omega) s3 hr2
      exact ⟨A4, r4, z1, s2.tr z2, z3⟩
theorem ag_pushed : Ag_I Rel fX11_pushed fX12_pushed := by
  intro σc σm a hR
  obtain ⟨F, A, B, Fc, Ac, Bc, rc, t, lv, T, u, w, ps, n7, sp, rfl, rfl, hT, hC⟩ := id hR
  obtain ⟨x, hx, rfl⟩ := iI_of a
  have h6 := hC.goodP.1
  have hr0 := hC.1.2.1
  have e0 : (0 : Int32) = iI 0 := rfl
  have e1 : (1 : Int32) = iI 1 := rfl
  have x0 : (iI x = 0) ↔ x = 0 := iI_eq (b := 0) hx ⟨by decide, by decide⟩
  have x1 : (iI x = 1) ↔ x = 1 := iI_eq (b := 1) hx ⟨by decide, by decide⟩
  unfold fX11_pushed fX12_pushed
  rw [cck_11 rfl, mck, e0, e1, m_in hx ⟨by decide, by decide⟩ ⟨by decide, by decide⟩, ← e0, ← e1]
  simp only [cb, Option.bind_some]
  by_cases c : 0 ≤ x ∧ x ≤ 1
  · rw [decide_eq_true c, if_neg (show ¬ b2 true = 0 by decide)]
    have hb11 : (if iI x = 0 then fX11_pushed_b11 0 (iI x) (mkC Fc Ac Bc rc) else if iI x = 1 then fX11_pushed_b11 0 (iI x) (mkC Fc Ac Bc rc) else some (-1, mkC Fc Ac Bc rc)) = fX11_pushed_b11 0 (iI x) (mkC Fc Ac Bc rc) := by
      by_cases q : x = 0
      · rw [if_pos (x0.2 q)]
      · rw [if_neg (fun z => q (x0.1 z)), if_pos (x1.2 (by omega))]
    rw [hb11]
    obtain ⟨F1, A1, ma, p1, p2, p3, p4, p5⟩ := core_copies hC
    obtain ⟨Fc1, Ac1, s1, s2, s3⟩ := c_copyFrom (F := Fc) (A := Ac) Bc rc (PA_of (Or.inr rfl)) (PA_of (Or.inl rfl)) (Or.inr (by decide)) hC.crow.2.2.2.1 h6 (hC.goodP.lt6 hC.2.1.1) hC.goodP.2.2.2.2
    have hR1 : CRow Fc1 Ac1 t T 42 (ps u) := hC.crow.row s3 s2 hC.goodP.big
    obtain ⟨F2, A2, B2, q1, q2, q3, q4⟩ := m_pushed (lv := lv) (T := T) (ma := ma) (iI x) (ps u).1 FU (ps u) 999 (by unfold FU; omega) hC.goodP.pb (by omega) (Nat.le_refl _) p2 p3 (B := B)
    obtain ⟨Ac2, r2, z1, z2, z3⟩ := c_pushed (T := T) (t := t) (B := Bc) (iI x) (ps u).1 FU (ps u) 999 (by unfold FU; omega) hC.goodP.pb (by omega) (Nat.le_refl _) hR1 hr0
    have hr2 : r2 0 = t := (z2.2.2 0 (by decide) (by decide)).trans hr0
    have ee : nI (ps u).1 - 1 = iI (((ps u).1 : Int) - 1) := iI_sub ((ps u).1 : Int) 1
    have hsz := p2.sz
    have hsz2 := s2.1
    have ct : CT t Fc Fc1 Ac Ac2 rc r2 := s3.ct.tr z2
    have mc := p4.tr q2
    unfold fX11_pushed_b11
    rw [p1]
    simp only [Option.bind_some]
    simp -implicitDefEqProofs (disch := first | assumption | omega | decide | exact And.intro (by omega) (by omega)) only [mck, mg_0, mp_0, mr_1, mg_2, mp_2, mr_3, mg_4, mp_4, mr_5, mr_6, mr_7, mr_8, mr_9, mg_10, mp_10, mg_11, mp_11, mg_12, mp_12, mg_13, mp_13, mg_14, mp_14, mg_15, mp_15, mg_16, mp_16, mg_17, mp_17, mg_18, mp_18, mg_19, mp_19, mg_20, mp_20, mr_21, mr_22, mr_23, mr_24, mr_25, mr_26, mr_27, mr_28, mr_29, mr_30, mr_31, mr_32, mg_33, mp_33, mr_34, mr_35, mr_36, mr_37, mr_38, mg_39, mp_39, mr_40, mr_41, mr_42, mg_43, mp_43, mr_44, mr_45, mg_46, mp_46, mr_47, mr_48, mg_49, mp_49, mg_50, mp_50, mg_51, mp_51, mr_52, mr_53, mr_54, mg_55, mp_55, mr_56, mr_57, mg_58, mp_58, mg_59, mp_59, mg_60, mp_60, mr_61, mg_62, mp_62, mr_63, mr_64, mr_65, mr_66, mr_67, mr_68, ma_1, ms_1, ma_2, ms_2, ma_3, ms_3, ma_4, ms_4, ma_5, ms_5, ma_6, ms_6, ma_7, ms_7, ma_8, ms_8, ma_9, ms_9, ma_10, ms_10, ma_11, ms_11, ma_12, ms_12, ma_13, ms_13, ma_14, ms_14, ma_15, ms_15, ma_16, ms_16, ma_17, ms_17, ma_18, ms_18, ma_19, ms_19, ma_20, ms_20, ma_21, ms_21, ma_22, ms_22, ma_23, ms_23, ma_24, ms_24, ma_25, ms_25, ma_26, ms_26, ma_27, ms_27, ma_28, ms_28, ma_29, ms_29, ma_30, ms_30, ma_31, ms_31, ma_32, ms_32, ma_33, ms_33, ma_34, ms_34, ma_35, ms_35, ma_36, ms_36, ma_37, ms_37, ma_38, ms_38, ma_39, ms_39, ma_40, ms_40, ma_41, ms_41, ma_42, ms_42, ma_43, ms_43, if_true, if_false, Option.bind_some, cb_e, lt_e, nI_1, hs_nar2, nh4, upd_at, vau_at, ma_30_18, ms_30_18, ma_31_18, ms_31_18, ma_28_0, ms_28_0, ma_28_1, ms_28_1, ma_28_2, ms_28_2, ma_28_3, ms_28_3, ma_28_4, ms_28_4, ma_42_0, ms_42_0, ma_42_1, ms_42_1, ma_42_2, ms_42_2, ma_36_0, ms_36_0, hsz, ee]
    simp -implicitDefEqProofs (disch := first | assumption | omega | decide | exact And.intro (by omega) (by omega)) only [cck_0, cr0_0, cr0_1, cr0_2, cr0_3, cg0_4, cp0_4, cg0_5, cp0_5, cck_1, cg1_0, cp1_0, cr1_1, cr1_2, cr1_3, cg1_4, cp1_4, cg1_5, cp1_5, cr1_6, cr1_7, cck_2, cr2_0, cr2_1, cr2_2, cck_3, cr3_0, cr3_1, cg3_2, cp3_2, cg3_3, cp3_3, cg3_4, cp3_4, cg3_5, cp3_5, cg3_6, cp3_6, cg3_7, cp3_7, cg3_8, cp3_8, cck_4, cg4_0, cp4_0, cg4_1, cp4_1, cr4_2, cr4_3, cr4_4, cr4_5, cck_5, cg5_0, cp5_0, cr5_1, cr5_2, cr5_3, cck_6, cg6_0, cp6_0, cg6_1, cp6_1, cck_7, cg7_0, cp7_0, cg7_1, cp7_1, cr7_2, cr7_3, cr7_4, cr7_5, cr7_6, cr7_7, cr7_8, cck_8, cr8_0, cr8_1, cck_9, cr9_0, cr9_1, cr9_2, cr9_3, cg9_4, cp9_4, cck_10, cg10_0, cp10_0, cr10_1, cr10_2, cr10_3, cr10_4, cg10_5, cp10_5, cr10_6, cr10_7, cr10_8, cg10_9, cp10_9, cg10_10, cp10_10, cr10_11, cr10_12, cr10_13, cr10_14, cck_11, cr11_0, cg11_1, cp11_1, cr11_2, cr11_3, cr11_4, cr11_5, cr11_6, cr11_7, cr11_8, cr11_9, cr11_10, cr11_11, cr11_12, cr11_13, cr11_14, ca_30, cs_30, ca_31, cs_31, ca_32, cs_32, ca_33, cs_33, ca_34, cs_34, ca_35, cs_35, ca_36, cs_36, ca_37, cs_37, ca_38, cs_38, ca_39, cs_39, ca_40, cs_40, ca_41, cs_41, ca_42, cs_42, car_20, car_21, car_22, cq11_3, cq11_4, cq3_1, cq0_0, cq0_1, if_true, if_false, Option.bind_some, cb_e, lt_e, nI_1, hs_nar2, nh4, upd_at, vau_at, ca_42_0, cs_42_0, s1, hsz2, ee]
    rw [q1, z1]
    unfold fX11_pushed_b47 fX12_pushed_b93
    by_cases c0 : x = 0
    · rw [if_pos (x0.2 c0), if_pos (x0.2 c0)]
      refine ⟨iI (outS T (pshA T (ps u).1 (ps u)) (pshA T (ps u).1 (ps u)).1 0 0), mkC Fc1 Ac2 Bc r2, mkM F2 A2 B2, ?_, ?_, rel_try hT hC mc.md ct⟩
      · simp -implicitDefEqProofs (disch := first | assumption | omega | decide | exact And.intro (by omega) (by omega)) only [cck_0, cr0_0, cr0_1, cr0_2, cr0_3, cg0_4, cp0_4, cg0_5, cp0_5, cck_1, cg1_0, cp1_0, cr1_1, cr1_2, cr1_3, cg1_4, cp1_4, cg1_5, cp1_5, cr1_6, cr1_7, cck_2, cr2_0, cr2_1, cr2_2, cck_3, cr3_0, cr3_1, cg3_2, cp3_2, cg3_3, cp3_3, cg3_4, cp3_4, cg3_5, cp3_5, cg3_6, cp3_6, cg3_7, cp3_7, cg3_8, cp3_8, cck_4, cg4_0, cp4_0, cg4_1, cp4_1, cr4_2, cr4_3, cr4_4, cr4_5, cck_5, cg5_0, cp5_0, cr5_1, cr5_2, cr5_3, cck_6, cg6_0, cp6_0, cg6_1, cp6_1, cck_7, cg7_0, cp7_0, cg7_1, cp7_1, cr7_2, cr7_3, cr7_4, cr7_5, cr7_6, cr7_7, cr7_8, cck_8, cr8_0, cr8_1, cck_9, cr9_0, cr9_1, cr9_2, cr9_3, cg9_4, cp9_4, cck_10, cg10_0, cp10_0, cr10_1, cr10_2, cr10_3, cr10_4, cg10_5, cp10_5, cr10_6, cr10_7, cr10_8, cg10_9, cp10_9, cg10_10, cp10_10, cr10_11, cr10_12, cr10_13, cr10_14, cck_11, cr11_0, cg11_1, cp11_1, cr11_2, cr11_3, cr11_4, cr11_5, cr11_6, cr11_7, cr11_8, cr11_9, cr11_10, cr11_11, cr11_12, cr11_13, cr11_14, ca_30, cs_30, ca_31, cs_31, ca_32, cs_32, ca_33, cs_33, ca_34, cs_34, ca_35, cs_35, ca_36, cs_36, ca_37, cs_37, ca_38, cs_38, ca_39, cs_39, ca_40, cs_40, ca_41, cs_41, ca_42, cs_42, car_20, car_21, car_22, cq11_3, cq11_4, cq3_1, cq0_0, cq0_1, if_true, if_false, Option.bind_some, cb_e, lt_e, nI_1, hs_nar2, nh4, upd_at, vau_at, ca_42_0, cs_42_0, c_farthestOut z3 hr2]
      · simp -implicitDefEqProofs (disch := first | assumption | omega | decide | exact And.intro (by omega) (by omega)) only [mck, mg_0, mp_0, mr_1, mg_2, mp_2, mr_3, mg_4, mp_4, mr_5, mr_6, mr_7, mr_8, mr_9, mg_10, mp_10, mg_11, mp_11, mg_12, mp_12, mg_13, mp_13, mg_14, mp_14, mg_15, mp_15, mg_16, mp_16, mg_17, mp_17, mg_18, mp_18, mg_19, mp_19, mg_20, mp_20, mr_21, mr_22, mr_23, mr_24, mr_25, mr_26, mr_27, mr_28, mr_29, mr_30, mr_31, mr_32, mg_33, mp_33, mr_34, mr_35, mr_36, mr_37, mr_38, mg_39, mp_39, mr_40, mr_41, mr_42, mg_43, mp_43, mr_44, mr_45, mg_46, mp_46, mr_47, mr_48, mg_49, mp_49, mg_50, mp_50, mg_51, mp_51, mr_52, mr_53, mr_54, mg_55, mp_55, mr_56, mr_57, mg_58, mp_58, mg_59, mp_59, mg_60, mp_60, mr_61, mg_62, mp_62, mr_63, mr_64, mr_65, mr_66, mr_67, mr_68, ma_1, ms_1, ma_2, ms_2, ma_3, ms_3, ma_4, ms_4, ma_5, ms_5, ma_6, ms_6, ma_7, ms_7, ma_8, ms_8, ma_9, ms_9, ma_10, ms_10, ma_11, ms_11, ma_12, ms_12, ma_13, ms_13, ma_14, ms_14, ma_15, ms_15, ma_16, ms_16, ma_17, ms_17, ma_18, ms_18, ma_19, ms_19, ma_20, ms_20, ma_21, ms_21, ma_22, ms_22, ma_23, ms_23, ma_24, ms_24, ma_25, ms_25, ma_26, ms_26, ma_27, ms_27, ma_28, ms_28, ma_29, ms_29, ma_30, ms_30, ma_31, ms_31, ma_32, ms_32, ma_33, ms_33, ma_34, ms_34, ma_35, ms_35, ma_36, ms_36, ma_37, ms_37, ma_38, ms_38, ma_39, ms_39, ma_40, ms_40, ma_41, ms_41, ma_42, ms_42, ma_43, ms_43, if_true, if_false, Option.bind_some, cb_e, lt_e, nI_1, hs_nar2, nh4, upd_at, vau_at, ma_30_18, ms_30_18, ma_31_18, ms_31_18, ma_28_0, ms_28_0, ma_28_1, ms_28_1, ma_28_2, ms_28_2, ma_28_3, ms_28_3, ma_28_4, ms_28_4, ma_42_0, ms_42_0, ma_42_1, ms_42_1, ma_42_2, ms_42_2, ma_36_0, ms_36_0, m_overNow q3]
    · rw [if_neg (fun z => c0 (x0.1 z)), if_neg (fun z => c0 (x0.1 z))]
      obtain ⟨F3, A3, B3, y1, y2, y3⟩ := m_tipsAt B2 q3 q4
      rw [stands_eq] at y1
      obtain ⟨Ac3, r3, g1, g2⟩ := c_allStand Bc r2 z3
      have hb6 := z3.2.2.2.2.1
      have e := rF_neg (s := st0 T (pshA T (ps u).1 (ps u))) hb6
      refine ⟨b2 (stAll T (pshA T (ps u).1 (ps u))), mkC Fc1 Ac3 Bc r3, mkM F3 A3 B3, ?_, ?_, rel_try hT hC (mc.tr y2.mc).md (ct.tr g2.ct)⟩
      · simp -implicitDefEqProofs (disch := first | assumption | omega | decide | exact And.intro (by omega) (by omega)) only [cck_0, cr0_0, cr0_1, cr0_2, cr0_3, cg0_4, cp0_4, cg0_5, cp0_5, cck_1, cg1_0, cp1_0, cr1_1, cr1_2, cr1_3, cg1_4, cp1_4, cg1_5, cp1_5, cr1_6, cr1_7, cck_2, cr2_0, cr2_1, cr2_2, cck_3, cr3_0, cr3_1, cg3_2, cp3_2, cg3_3, cp3_3, cg3_4, cp3_4, cg3_5, cp3_5, cg3_6, cp3_6, cg3_7, cp3_7, cg3_8, cp3_8, cck_4, cg4_0, cp4_0, cg4_1, cp4_1, cr4_2, cr4_3, cr4_4, cr4_5, cck_5, cg5_0, cp5_0, cr5_1, cr5_2, cr5_3, cck_6, cg6_0, cp6_0, cg6_1, cp6_1, cck_7, cg7_0, cp7_0, cg7_1, cp7_1, cr7_2, cr7_3, cr7_4, cr7_5, cr7_6, cr7_7, cr7_8, cck_8, cr8_0, cr8_1, cck_9, cr9_0, cr9_1, cr9_2, cr9_3, cg9_4, cp9_4, cck_10, cg10_0, cp10_0, cr10_1, cr10_2, cr10_3, cr10_4, cg10_5, cp10_5, cr10_6, cr10_7, cr10_8, cg10_9, cp10_9, cg10_10, cp10_10, cr10_11, cr10_12, cr10_13, cr10_14, cck_11, cr11_0, cg11_1, cp11_1, cr11_2, cr11_3, cr11_4, cr11_5, cr11_6, cr11_7, cr11_8, cr11_9, cr11_10, cr11_11, cr11_12, cr11_13, cr11_14, ca_30, cs_30, ca_31, cs_31, ca_32, cs_32, ca_33, cs_33, ca_34, cs_34, ca_35, cs_35, ca_36, cs_36, ca_37, cs_37, ca_38, cs_38, ca_39, cs_39, ca_40, cs_40, ca_41, cs_41, ca_42, cs_42, car_20, car_21, car_22, cq11_3, cq11_4, cq3_1, cq0_0, cq0_1, if_true, if_false, Option.bind_some, cb_e, lt_e, nI_1, hs_nar2, nh4, upd_at, vau_at, ca_42_0, cs_42_0, hr2, g1]
        cases stAll T (pshA T (ps u).1 (ps u)) <;> rfl
      · simp -implicitDefEqProofs (disch := first | assumption | omega | decide | exact And.intro (by omega) (by omega)) only [mck, mg_0, mp_0, mr_1, mg_2, mp_2, mr_3, mg_4, mp_4, mr_5, mr_6, mr_7, mr_8, mr_9, mg_10, mp_10, mg_11, mp_11, mg_12, mp_12, mg_13, mp_13, mg_14, mp_14, mg_15, mp_15, mg_16, mp_16, mg_17, mp_17, mg_18, mp_18, mg_19, mp_19, mg_20, mp_20, mr_21, mr_22, mr_23, mr_24, mr_25, mr_26, mr_27, mr_28, mr_29, mr_30, mr_31, mr_32, mg_33, mp_33, mr_34, mr_35, mr_36, mr_37, mr_38, mg_39, mp_39, mr_40, mr_41, mr_42, mg_43, mp_43, mr_44, mr_45, mg_46, mp_46, mr_47, mr_48, mg_49, mp_49, mg_50, mp_50, mg_51, mp_51, mr_52, mr_53, mr_54, mg_55, mp_55, mr_56, mr_57, mg_58, mp_58, mg_59, mp_59, mg_60, mp_60, mr_61, mg_62, mp_62, mr_63, mr_64, mr_65, mr_66, mr_67, mr_68, ma_1, ms_1, ma_2, ms_2, ma_3, ms_3, ma_4, ms_4, ma_5, ms_5, ma_6, ms_6, ma_7, ms_7, ma_8, ms_8, ma_9, ms_9, ma_10, ms_10, ma_11, ms_11, ma_12, ms_12, ma_13, ms_13, ma_14, ms_14, ma_15, ms_15, ma_16, ms_16, ma_17, ms_17, ma_18, ms_18, ma_19, ms_19, ma_20, ms_20, ma_21, ms_21, ma_22, ms_22, ma_23, ms_23, ma_24, ms_24, ma_25, ms_25, ma_26, ms_26, ma_27, ms_27, ma_28, ms_28, ma_29, ms_29, ma_30, ms_30, ma_31, ms_31, ma_32, ms_32, ma_33, ms_33, ma_34, ms_34, ma_35, ms_35, ma_36, ms_36, ma_37, ms_37, ma_38, ms_38, ma_39, ms_39, ma_40, ms_40, ma_41, ms_41, ma_42, ms_42, ma_43, ms_43, if_true, if_false, Option.bind_some, cb_e, lt_e, nI_1, hs_nar2, nh4, upd_at, vau_at, ma_30_18, ms_30_18, ma_31_18, ms_31_18, ma_28_0, ms_28_0, ma_28_1, ms_28_1, ma_28_2, ms_28_2, ma_28_3, ms_28_3, ma_28_4, ms_28_4, ma_42_0, ms_42_0, ma_42_1, ms_42_1, ma_42_2, ms_42_2, ma_36_0, ms_36_0, y1]
        unfold stAll
        cases hq : (fal (st0 T (pshA T (ps u).1 (ps u))) (pshA T (ps u).1 (ps u)).1 0).isNone with
        | true => rw [if_neg (by rw [e, hq]; decide)]; rfl
        | false => rw [if_pos (e.2 hq)]; rfl
  · rw [decide_eq_false c, if_pos (show b2 false = 0 by decide), if_neg (fun z => by have := x0.1 z; omega), if_neg (fun z => by have := x1.1 z; omega)]
    exact ⟨_, _, _, rfl, rfl, hR⟩
