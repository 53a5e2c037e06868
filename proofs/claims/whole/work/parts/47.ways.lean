/-! ===== takings ===== -/
def sumB (g : Nat → Int32) (s : Nat) : Nat → Int32
  | 0 => 0
  | k + 1 => if s / 2 ^ k % 2 = 1 then sumB g s k + g (s - 2 ^ k) else sumB g s k
def tabW (st : Nat → Bool) : Nat → Nat → Int32
  | 0 => fun _ => 1
  | m + 1 => upd (tabW st m) (m + 1) (if st (m + 1) then sumB (tabW st m) (m + 1) 6 else 0)
theorem sumB_congr {g g' : Nat → Int32} {s : Nat} (hs : 0 < s) (hs2 : s < 64) (h : ∀ x, x < s → g x = g' x) : ∀ k, k ≤ 6 → sumB g s k = sumB g' s k
  | 0, _ => rfl
  | k + 1, hk => by
    unfold sumB
    rw [sumB_congr hs hs2 h k (by omega)]
    by_cases c : s / 2 ^ k % 2 = 1
    · rw [if_pos c, if_pos c, h _ (Nat.sub_lt hs (Nat.pow_pos (by decide)))]
    · rw [if_neg c, if_neg c]
theorem sumB_top {g : Nat → Int32} {n s : Nat} (hn : n ≤ 6) (hs : s < 2 ^ n) : ∀ k, n + k ≤ 6 → sumB g s (n + k) = sumB g s n
  | 0, _ => rfl
  | k + 1, hk => by
    rw [← Nat.add_assoc, sumB, if_neg (bit_z n hn s hs (n + k) (by omega) (by omega)), sumB_top hn hs k (by omega)]
theorem c_waysOn {F A : Nat → Nat → Int32} {B : Nat → Nat → Int64} {r : Nat → Nat} {s : Nat} (hs : s < 64) : fX11_waysOn 0 (nI s) (mkC F A B r) = some (sumB (A 192) s 6, mkC F A B r) := by
  have key : ∀ k i fuel, i + k = 6 → k < fuel → fX11_waysOn_b4 fuel 0 (nI s) (sumB (A 192) s i) (nI i) (mkC F A B r) = some (sumB (A 192) s 6, mkC F A B r) := by
    intro k
    induction k with
    | zero =>
      intro i fuel h1 h2
      obtain ⟨fuel, rfl⟩ : ∃ q, fuel = q + 1 := ⟨fuel - 1, by omega⟩
      have : i = 6 := by omega
      subst this
      rw [fX11_waysOn_b4, if_pos (by decide)]
    | succ k ih =>
      intro i fuel h1 h2
      obtain ⟨fuel, rfl⟩ : ∃ q, fuel = q + 1 := ⟨fuel - 1, by omega⟩
      have hb := bit_c s hs i (by omega)
      have e := ih (i + 1) fuel (by omega) (by omega)
      rw [fX11_waysOn_b4, if_neg (show ¬ (6 : Int32) ≤ nI i from nI_ge (b := 6) (by omega) (by decide))]
      unfold fX11_waysOn_b33
      rw [sumB] at e
      by_cases c : s / 2 ^ i % 2 = 1
      · have hl := bit_o s hs i (by omega) c
        have hlt : s - 2 ^ i < 64 := Nat.lt_of_le_of_lt (Nat.sub_le _ _) hs
        rw [if_pos c] at e
        rw [if_neg (fun q => hb.1 q c), hl]
        simp -implicitDefEqProofs (disch := first | assumption | omega | decide | exact And.intro (by omega) (by omega)) only [cck_0, cr0_0, cr0_1, cr0_2, cr0_3, cg0_4, cp0_4, cg0_5, cp0_5, cck_1, cg1_0, cp1_0, cr1_1, cr1_2, cr1_3, cg1_4, cp1_4, cg1_5, cp1_5, cr1_6, cr1_7, cck_2, cr2_0, cr2_1, cr2_2, cck_3, cr3_0, cr3_1, cg3_2, cp3_2, cg3_3, cp3_3, cg3_4, cp3_4, cg3_5, cp3_5, cg3_6, cp3_6, cg3_7, cp3_7, cg3_8, cp3_8, cck_4, cg4_0, cp4_0, cg4_1, cp4_1, cr4_2, cr4_3, cr4_4, cr4_5, cck_5, cg5_0, cp5_0, cr5_1, cr5_2, cr5_3, cck_6, cg6_0, cp6_0, cg6_1, cp6_1, cck_7, cg7_0, cp7_0, cg7_1, cp7_1, cr7_2, cr7_3, cr7_4, cr7_5, cr7_6, cr7_7, cr7_8, cck_8, cr8_0, cr8_1, cck_9, cr9_0, cr9_1, cr9_2, cr9_3, cg9_4, cp9_4, cck_10, cg10_0, cp10_0, cr10_1, cr10_2, cr10_3, cr10_4, cg10_5, cp10_5, cr10_6, cr10_7, cr10_8, cg10_9, cp10_9, cg10_10, cp10_10, cr10_11, cr10_12, cr10_13, cr10_14, cck_11, cr11_0, cg11_1, cp11_1, cr11_2, cr11_3, cr11_4, cr11_5, cr11_6, cr11_7, cr11_8, cr11_9, cr11_10, cr11_11, cr11_12, cr11_13, cr11_14, ca_30, cs_30, ca_31, cs_31, ca_32, cs_32, ca_33, cs_33, ca_34, cs_34, ca_35, cs_35, ca_36, cs_36, ca_37, cs_37, ca_38, cs_38, ca_39, cs_39, ca_40, cs_40, ca_41, cs_41, ca_42, cs_42, car_20, car_21, car_22, cq11_3, cq11_4, cq3_1, cq0_0, cq0_1, if_true, if_false, Option.bind_some, cb_e, lt_e, nI_1, hs_nar2, nh4, upd_at, vau_at, ca_42_0, cs_42_0]
        exact e
      · rw [if_neg c] at e
        rw [if_pos (hb.2 c), nI_1]
        exact e
  unfold fX11_waysOn
  rw [cck_11 rfl]
  exact key 6 0 FU (by omega) (by decide)
theorem m_waysOn {F : Nat → Int32} {B : Nat → Nat → Int64} {n s : Nat} (hn : n ≤ 6) (hs : s < 64) (h0 : 0 < s) (g : Nat → Int32) (all : Int32) (K : Nat → Int32 → Int32 → Sto → Option (Int32 × Sto)) : ∀ k i fuel, i + k = n → k < fuel → ∀ (A : Nat → Nat → Int32), A 30 18 = nI n → A 36 s = sumB g s i → (∀ x, x < s → A 36 x = g x) → fX12_takings_b48 K fuel 0 all (nI s) (nI i) (mkM F A B) = K 0 all (nI (s + 1)) (mkM F (va_up A 36 (upd (A 36) s (sumB g s n))) B) := by
  intro k
  induction k with
  | zero =>
    intro i fuel h1 h2 A a1 a2 a3
    obtain ⟨fuel, rfl⟩ : ∃ q, fuel = q + 1 := ⟨fuel - 1, by omega⟩
    have hin : i = n := by omega
    subst hin
    rw [fX12_takings_b48]
    simp -implicitDefEqProofs (disch := first | assumption | omega | decide | exact And.intro (by omega) (by omega)) only [mck, mg_0, mp_0, mr_1, mg_2, mp_2, mr_3, mg_4, mp_4, mr_5, mr_6, mr_7, mr_8, mr_9, mg_10, mp_10, mg_11, mp_11, mg_12, mp_12, mg_13, mp_13, mg_14, mp_14, mg_15, mp_15, mg_16, mp_16, mg_17, mp_17, mg_18, mp_18, mg_19, mp_19, mg_20, mp_20, mr_21, mr_22, mr_23, mr_24, mr_25, mr_26, mr_27, mr_28, mr_29, mr_30, mr_31, mr_32, mg_33, mp_33, mr_34, mr_35, mr_36, mr_37, mr_38, mg_39, mp_39, mr_40, mr_41, mr_42, mg_43, mp_43, mr_44, mr_45, mg_46, mp_46, mr_47, mr_48, mg_49, mp_49, mg_50, mp_50, mg_51, mp_51, mr_52, mr_53, mr_54, mg_55, mp_55, mr_56, mr_57, mg_58, mp_58, mg_59, mp_59, mg_60, mp_60, mr_61, mg_62, mp_62, mr_63, mr_64, mr_65, mr_66, mr_67, mr_68, ma_1, ms_1, ma_2, ms_2, ma_3, ms_3, ma_4, ms_4, ma_5, ms_5, ma_6, ms_6, ma_7, ms_7, ma_8, ms_8, ma_9, ms_9, ma_10, ms_10, ma_11, ms_11, ma_12, ms_12, ma_13, ms_13, ma_14, ms_14, ma_15, ms_15, ma_16, ms_16, ma_17, ms_17, ma_18, ms_18, ma_19, ms_19, ma_20, ms_20, ma_21, ms_21, ma_22, ms_22, ma_23, ms_23, ma_24, ms_24, ma_25, ms_25, ma_26, ms_26, ma_27, ms_27, ma_28, ms_28, ma_29, ms_29, ma_30, ms_30, ma_31, ms_31, ma_32, ms_32, ma_33, ms_33, ma_34, ms_34, ma_35, ms_35, ma_36, ms_36, ma_37, ms_37, ma_38, ms_38, ma_39, ms_39, ma_40, ms_40, ma_41, ms_41, ma_42, ms_42, ma_43, ms_43, if_true, if_false, Option.bind_some, cb_e, lt_e, nI_1, hs_nar2, nh4, upd_at, vau_at, ma_30_18, ms_30_18, ma_31_18, ms_31_18, ma_28_0, ms_28_0, ma_28_1, ms_28_1, ma_28_2, ms_28_2, ma_28_3, ms_28_3, ma_28_4, ms_28_4, ma_42_0, ms_42_0, ma_42_1, ms_42_1, ma_42_2, ms_42_2, ma_36_0, ms_36_0, a1]
    rw [if_pos (nI_le (Nat.le_refl _) (by omega))]
    unfold fX12_takings_b95
    rw [nI_1, ← a2]
    have : upd (A 36) s (A 36 s) = A 36 := by
      funext j
      unfold upd
      split
      · rename_i h; rw [h]
      · rfl
    rw [this, vau_id]
  | succ k ih =>
    intro i fuel h1 h2 A a1 a2 a3
    obtain ⟨fuel, rfl⟩ : ∃ q, fuel = q + 1 := ⟨fuel - 1, by omega⟩
    have hb := bit_m s hs i (by omega)
    rw [fX12_takings_b48]
    simp -implicitDefEqProofs (disch := first | assumption | omega | decide | exact And.intro (by omega) (by omega)) only [mck, mg_0, mp_0, mr_1, mg_2, mp_2, mr_3, mg_4, mp_4, mr_5, mr_6, mr_7, mr_8, mr_9, mg_10, mp_10, mg_11, mp_11, mg_12, mp_12, mg_13, mp_13, mg_14, mp_14, mg_15, mp_15, mg_16, mp_16, mg_17, mp_17, mg_18, mp_18, mg_19, mp_19, mg_20, mp_20, mr_21, mr_22, mr_23, mr_24, mr_25, mr_26, mr_27, mr_28, mr_29, mr_30, mr_31, mr_32, mg_33, mp_33, mr_34, mr_35, mr_36, mr_37, mr_38, mg_39, mp_39, mr_40, mr_41, mr_42, mg_43, mp_43, mr_44, mr_45, mg_46, mp_46, mr_47, mr_48, mg_49, mp_49, mg_50, mp_50, mg_51, mp_51, mr_52, mr_53, mr_54, mg_55, mp_55, mr_56, mr_57, mg_58, mp_58, mg_59, mp_59, mg_60, mp_60, mr_61, mg_62, mp_62, mr_63, mr_64, mr_65, mr_66, mr_67, mr_68, ma_1, ms_1, ma_2, ms_2, ma_3, ms_3, ma_4, ms_4, ma_5, ms_5, ma_6, ms_6, ma_7, ms_7, ma_8, ms_8, ma_9, ms_9, ma_10, ms_10, ma_11, ms_11, ma_12, ms_12, ma_13, ms_13, ma_14, ms_14, ma_15, ms_15, ma_16, ms_16, ma_17, ms_17, ma_18, ms_18, ma_19, ms_19, ma_20, ms_20, ma_21, ms_21, ma_22, ms_22, ma_23, ms_23, ma_24, ms_24, ma_25, ms_25, ma_26, ms_26, ma_27, ms_27, ma_28, ms_28, ma_29, ms_29, ma_30, ms_30, ma_31, ms_31, ma_32, ms_32, ma_33, ms_33, ma_34, ms_34, ma_35, ms_35, ma_36, ms_36, ma_37, ms_37, ma_38, ms_38, ma_39, ms_39, ma_40, ms_40, ma_41, ms_41, ma_42, ms_42, ma_43, ms_43, if_true, if_false, Option.bind_some, cb_e, lt_e, nI_1, hs_nar2, nh4, upd_at, vau_at, ma_30_18, ms_30_18, ma_31_18, ms_31_18, ma_28_0, ms_28_0, ma_28_1, ms_28_1, ma_28_2, ms_28_2, ma_28_3, ms_28_3, ma_28_4, ms_28_4, ma_42_0, ms_42_0, ma_42_1, ms_42_1, ma_42_2, ms_42_2, ma_36_0, ms_36_0, a1]
    rw [if_neg (nI_ge (by omega) (by omega)), hb]
    unfold fX12_takings_b89
    by_cases c : s / 2 ^ i % 2 = 1
    · have hl := bit_o s hs i (by omega) c
      have hlt : s - 2 ^ i < s := Nat.sub_lt h0 (Nat.pow_pos (by decide))
      have hlt64 : s - 2 ^ i < 64 := by omega
      have e3 := a3 _ hlt
      rw [if_pos (show nI (s / 2 ^ i % 2) = 1 by rw [c]; rfl)]
      simp -implicitDefEqProofs (disch := first | assumption | omega | decide | exact And.intro (by omega) (by omega)) only [mck, mg_0, mp_0, mr_1, mg_2, mp_2, mr_3, mg_4, mp_4, mr_5, mr_6, mr_7, mr_8, mr_9, mg_10, mp_10, mg_11, mp_11, mg_12, mp_12, mg_13, mp_13, mg_14, mp_14, mg_15, mp_15, mg_16, mp_16, mg_17, mp_17, mg_18, mp_18, mg_19, mp_19, mg_20, mp_20, mr_21, mr_22, mr_23, mr_24, mr_25, mr_26, mr_27, mr_28, mr_29, mr_30, mr_31, mr_32, mg_33, mp_33, mr_34, mr_35, mr_36, mr_37, mr_38, mg_39, mp_39, mr_40, mr_41, mr_42, mg_43, mp_43, mr_44, mr_45, mg_46, mp_46, mr_47, mr_48, mg_49, mp_49, mg_50, mp_50, mg_51, mp_51, mr_52, mr_53, mr_54, mg_55, mp_55, mr_56, mr_57, mg_58, mp_58, mg_59, mp_59, mg_60, mp_60, mr_61, mg_62, mp_62, mr_63, mr_64, mr_65, mr_66, mr_67, mr_68, ma_1, ms_1, ma_2, ms_2, ma_3, ms_3, ma_4, ms_4, ma_5, ms_5, ma_6, ms_6, ma_7, ms_7, ma_8, ms_8, ma_9, ms_9, ma_10, ms_10, ma_11, ms_11, ma_12, ms_12, ma_13, ms_13, ma_14, ms_14, ma_15, ms_15, ma_16, ms_16, ma_17, ms_17, ma_18, ms_18, ma_19, ms_19, ma_20, ms_20, ma_21, ms_21, ma_22, ms_22, ma_23, ms_23, ma_24, ms_24, ma_25, ms_25, ma_26, ms_26, ma_27, ms_27, ma_28, ms_28, ma_29, ms_29, ma_30, ms_30, ma_31, ms_31, ma_32, ms_32, ma_33, ms_33, ma_34, ms_34, ma_35, ms_35, ma_36, ms_36, ma_37, ms_37, ma_38, ms_38, ma_39, ms_39, ma_40, ms_40, ma_41, ms_41, ma_42, ms_42, ma_43, ms_43, if_true, if_false, Option.bind_some, cb_e, lt_e, nI_1, hs_nar2, nh4, upd_at, vau_at, ma_30_18, ms_30_18, ma_31_18, ms_31_18, ma_28_0, ms_28_0, ma_28_1, ms_28_1, ma_28_2, ms_28_2, ma_28_3, ms_28_3, ma_28_4, ms_28_4, ma_42_0, ms_42_0, ma_42_1, ms_42_1, ma_42_2, ms_42_2, ma_36_0, ms_36_0, hl, a2, e3]
      have e := ih (i + 1) fuel (by omega) (by omega) (va_up A 36 (upd (A 36) s (sumB g s i + g (s - 2 ^ i)))) (by rw [vau_ne (by decide)]; exact a1) (by rw [vau_at, upd_at, sumB, if_pos c]) (fun x hx => by rw [vau_at, upd_ne (by omega)]; exact a3 x hx)
      rw [e, vau_vau, vau_at, upd_upd]
    · rw [if_neg (show ¬ nI (s / 2 ^ i % 2) = 1 from fun q => c ((nI_eq (b := 1) (by omega) (by decide)).1 q)), nI_1]
      exact ih (i + 1) fuel (by omega) (by omega) A a1 (by rw [sumB, if_neg c]; exact a2) a3
theorem pow_pos' : ∀ n, n ≤ 6 → 1 ≤ 2 ^ n ∧ 2 ^ n ≤ 64 := by decide +kernel
theorem takings_go {T : TD} {n : Nat} {P : AP} (hn : n = P.1) {Bc : Nat → Nat → Int64} {t lv u w : Nat} {ps : Nat → AP} {n7 : Nat} {sp : Nat → AP} (hP : ps u = P) : ∀ k m fuel fuel', m + k = 2 ^ n - 1 → k < fuel → k < fuel' → ∀ {F : Nat → Int32} {A : Nat → Nat → Int32} {B : Nat → Nat → Int64} {Fc Ac : Nat → Nat → Int32} {rc : Nat → Nat}, Tape F A Fc Ac → Core F A B Fc Ac Bc rc t lv T u w ps n7 sp → (∀ x, x ≤ m → A 36 x = tabW (fun s => stAll T (keep P s)) m x) → (∀ x, x ≤ m → Ac 192 x = tabW (fun s => stAll T (keep P s)) m x) → ∃ v σc σm, fX11_takings_b21 fuel 0 (nI (2 ^ n - 1)) (nI (m + 1)) (mkC Fc Ac Bc rc) = some (v, σc) ∧ fX12_takings_b19 fuel' 0 (nI (2 ^ n)) (nI (m + 1)) (mkM F A B) = some (v, σm) ∧ Rel σc σm := by
  intro k
  induction k with
  | zero =>
    intro m fuel fuel' h1 h2 h3 F A B Fc Ac rc hT hC hA hAc
    obtain ⟨fuel, rfl⟩ : ∃ q, fuel = q + 1 := ⟨fuel - 1, by omega⟩
    obtain ⟨fuel', rfl⟩ : ∃ q, fuel' = q + 1 := ⟨fuel' - 1, by omega⟩
    have hn6 : n ≤ 6 := by rw [hn, ← hP]; exact hC.goodP.1
    obtain ⟨w1, w2⟩ := pow_pos' n hn6
    have hm : m = 2 ^ n - 1 := by omega
    have e1 := hA m (Nat.le_refl _)
    have e2 := hAc m (Nat.le_refl _)
    rw [← hm]
    rw [fX11_takings_b21, fX12_takings_b19, if_pos (nI_lt (by omega) (by omega)), if_pos (nI_le (by omega) (by omega))]
    have e3 : nI (2 ^ n) - 1 = nI m := by rw [hm]; exact pk_sub (b := 1) (by omega)
    refine ⟨tabW (fun s => stAll T (keep P s)) m m, mkC Fc Ac Bc rc, mkM F A B, ?_, ?_, rel_of hT hC⟩
    · simp -implicitDefEqProofs (disch := first | assumption | omega | decide | exact And.intro (by omega) (by omega)) only [cck_0, cr0_0, cr0_1, cr0_2, cr0_3, cg0_4, cp0_4, cg0_5, cp0_5, cck_1, cg1_0, cp1_0, cr1_1, cr1_2, cr1_3, cg1_4, cp1_4, cg1_5, cp1_5, cr1_6, cr1_7, cck_2, cr2_0, cr2_1, cr2_2, cck_3, cr3_0, cr3_1, cg3_2, cp3_2, cg3_3, cp3_3, cg3_4, cp3_4, cg3_5, cp3_5, cg3_6, cp3_6, cg3_7, cp3_7, cg3_8, cp3_8, cck_4, cg4_0, cp4_0, cg4_1, cp4_1, cr4_2, cr4_3, cr4_4, cr4_5, cck_5, cg5_0, cp5_0, cr5_1, cr5_2, cr5_3, cck_6, cg6_0, cp6_0, cg6_1, cp6_1, cck_7, cg7_0, cp7_0, cg7_1, cp7_1, cr7_2, cr7_3, cr7_4, cr7_5, cr7_6, cr7_7, cr7_8, cck_8, cr8_0, cr8_1, cck_9, cr9_0, cr9_1, cr9_2, cr9_3, cg9_4, cp9_4, cck_10, cg10_0, cp10_0, cr10_1, cr10_2, cr10_3, cr10_4, cg10_5, cp10_5, cr10_6, cr10_7, cr10_8, cg10_9, cp10_9, cg10_10, cp10_10, cr10_11, cr10_12, cr10_13, cr10_14, cck_11, cr11_0, cg11_1, cp11_1, cr11_2, cr11_3, cr11_4, cr11_5, cr11_6, cr11_7, cr11_8, cr11_9, cr11_10, cr11_11, cr11_12, cr11_13, cr11_14, ca_30, cs_30, ca_31, cs_31, ca_32, cs_32, ca_33, cs_33, ca_34, cs_34, ca_35, cs_35, ca_36, cs_36, ca_37, cs_37, ca_38, cs_38, ca_39, cs_39, ca_40, cs_40, ca_41, cs_41, ca_42, cs_42, car_20, car_21, car_22, cq11_3, cq11_4, cq3_1, cq0_0, cq0_1, if_true, if_false, Option.bind_some, cb_e, lt_e, nI_1, hs_nar2, nh4, upd_at, vau_at, ca_42_0, cs_42_0, e2]
    · simp -implicitDefEqProofs (disch := first | assumption | omega | decide | exact And.intro (by omega) (by omega)) only [mck, mg_0, mp_0, mr_1, mg_2, mp_2, mr_3, mg_4, mp_4, mr_5, mr_6, mr_7, mr_8, mr_9, mg_10, mp_10, mg_11, mp_11, mg_12, mp_12, mg_13, mp_13, mg_14, mp_14, mg_15, mp_15, mg_16, mp_16, mg_17, mp_17, mg_18, mp_18, mg_19, mp_19, mg_20, mp_20, mr_21, mr_22, mr_23, mr_24, mr_25, mr_26, mr_27, mr_28, mr_29, mr_30, mr_31, mr_32, mg_33, mp_33, mr_34, mr_35, mr_36, mr_37, mr_38, mg_39, mp_39, mr_40, mr_41, mr_42, mg_43, mp_43, mr_44, mr_45, mg_46, mp_46, mr_47, mr_48, mg_49, mp_49, mg_50, mp_50, mg_51, mp_51, mr_52, mr_53, mr_54, mg_55, mp_55, mr_56, mr_57, mg_58, mp_58, mg_59, mp_59, mg_60, mp_60, mr_61, mg_62, mp_62, mr_63, mr_64, mr_65, mr_66, mr_67, mr_68, ma_1, ms_1, ma_2, ms_2, ma_3, ms_3, ma_4, ms_4, ma_5, ms_5, ma_6, ms_6, ma_7, ms_7, ma_8, ms_8, ma_9, ms_9, ma_10, ms_10, ma_11, ms_11, ma_12, ms_12, ma_13, ms_13, ma_14, ms_14, ma_15, ms_15, ma_16, ms_16, ma_17, ms_17, ma_18, ms_18, ma_19, ms_19, ma_20, ms_20, ma_21, ms_21, ma_22, ms_22, ma_23, ms_23, ma_24, ms_24, ma_25, ms_25, ma_26, ms_26, ma_27, ms_27, ma_28, ms_28, ma_29, ms_29, ma_30, ms_30, ma_31, ms_31, ma_32, ms_32, ma_33, ms_33, ma_34, ms_34, ma_35, ms_35, ma_36, ms_36, ma_37, ms_37, ma_38, ms_38, ma_39, ms_39, ma_40, ms_40, ma_41, ms_41, ma_42, ms_42, ma_43, ms_43, if_true, if_false, Option.bind_some, cb_e, lt_e, nI_1, hs_nar2, nh4, upd_at, vau_at, ma_30_18, ms_30_18, ma_31_18, ms_31_18, ma_28_0, ms_28_0, ma_28_1, ms_28_1, ma_28_2, ms_28_2, ma_28_3, ms_28_3, ma_28_4, ms_28_4, ma_42_0, ms_42_0, ma_42_1, ms_42_1, ma_42_2, ms_42_2, ma_36_0, ms_36_0, e3, e1]
  | succ k ih =>
    intro m fuel fuel' h1 h2 h3 F A B Fc Ac rc hT hC hA hAc
    obtain ⟨fuel, rfl⟩ : ∃ q, fuel = q + 1 := ⟨fuel - 1, by omega⟩
    obtain ⟨fuel', rfl⟩ : ∃ q, fuel' = q + 1 := ⟨fuel' - 1, by omega⟩
    have hn6 : n ≤ 6 := by rw [hn, ← hP]; exact hC.goodP.1
    obtain ⟨w1, w2⟩ := pow_pos' n hn6
    have hr0 := hC.1.2.1
    have t7 := hC.t7
    have hm64 : m + 1 < 64 := by omega
    have n64 : ¬ (64 : Int32) ≤ nI (m + 1) := nI_ge (b := 64) (by omega) (by decide)
    have nall : ¬ nI (2 ^ n - 1) < nI (m + 1) := nI_nlt (by omega) (by omega)
    have nall' : ¬ nI (2 ^ n) ≤ nI (m + 1) := nI_ge (by omega) (by omega)
    /- the model first empties its place -/
    have hC0 : Core F (va_up A 36 (upd (A 36) (m + 1) 0)) B Fc Ac Bc rc t lv T u w ps n7 sp := hC.eq ⟨⟨rfl, rfl, rfl, rfl⟩, fun c hc => vau_ne (by unfold KM at hc; omega), rfl⟩ CEq.rf
    obtain ⟨F1, A1, B1, Fc1, Ac1, Ac2, rc2, ⟨A0, m1, m2⟩, c1, c2, d1, d2, d3, d4, d5⟩ := both_keep hC0 (s := m + 1) hm64
    rw [hP] at m2 c2
    have hb6 : (keep P (m + 1)).1 ≤ 6 := by rw [← hP]; exact (keep_big hC.goodP.big (m + 1)).1
    have e := rF_lt (s := st0 T (keep P (m + 1))) hb6
    have a36 : A1 36 = upd (A 36) (m + 1) 0 := by rw [d1.2.1 36 (by decide) (by decide) (by decide) (by decide), vau_at]
    have a30 : A1 30 = A 30 := by rw [d1.2.1 30 (by decide) (by decide) (by decide) (by decide), vau_ne (by decide)]
    have c192 : Ac2 192 = Ac 192 := d5 192 (by decide) (by decide) (by decide) (by omega)
    have hsz : A1 30 18 = nI n := by
      have := hC.mp.1
      rw [Nat.zero_add] at this
      rw [a30, this, hP, hn]
    have hs2 : m + 1 < 2 ^ n := by omega
    have eqs : sumB (tabW (fun s => stAll T (keep P s)) m) (m + 1) n = sumB (tabW (fun s => stAll T (keep P s)) m) (m + 1) 6 := by
      have := sumB_top (g := tabW (fun s => stAll T (keep P s)) m) hn6 hs2 (6 - n) (by omega)
      rw [show n + (6 - n) = 6 by omega] at this
      exact this.symm
    have eqc : sumB (Ac2 192) (m + 1) 6 = sumB (tabW (fun s => stAll T (keep P s)) m) (m + 1) 6 := by
      rw [c192]
      exact sumB_congr (by omega) hm64 (fun x hx => hAc x (by omega)) 6 (Nat.le_refl _)
    /- going on with the value v at m + 1 -/
    have go : ∀ v : Int32, v = (if stAll T (keep P (m + 1)) then sumB (tabW (fun s => stAll T (keep P s)) m) (m + 1) 6 else 0) → ∃ v' σc σm, fX11_takings_b21 fuel 0 (nI (2 ^ n - 1)) (nI (m + 1 + 1)) (mkC Fc1 (va_up Ac2 192 (upd (Ac2 192) (m + 1) v)) Bc rc2) = some (v', σc) ∧ fX12_takings_b19 fuel' 0 (nI (2 ^ n)) (nI (m + 1 + 1)) (mkM F1 (va_up A1 36 (upd (A1 36) (m + 1) v)) B1) = some (v', σm) ∧ Rel σc σm := by
      intro v hv
      have ct : CT t Fc Fc1 Ac (va_up Ac2 192 (upd (Ac2 192) (m + 1) v)) rc rc2 := d3.tr ⟨fun _ _ => rfl, fun c _ _ _ _ h5 => vau_ne h5, fun _ _ _ => rfl⟩
      have md0 : MD F F1 A A1 B B1 := MD.tr (⟨fun _ _ _ _ _ => rfl, fun c _ _ _ _ h5 => vau_ne h5, fun _ _ _ => rfl⟩ : MD F F A (va_up A 36 (upd (A 36) (m + 1) 0)) B B) d1.md
      have md : MD F F1 A (va_up A1 36 (upd (A1 36) (m + 1) v)) B B1 := md0.tr ⟨fun _ _ _ _ _ => rfl, fun c _ _ _ _ h5 => vau_ne h5, fun _ _ _ => rfl⟩
      refine ih (m + 1) fuel fuel' (by omega) (by omega) (by omega) (hT.eq (md.1 2 (by decide) (by decide) (by decide) (by decide)) (md.2.1 1 (by decide) (by decide) (by decide) (by decide) (by decide)) (by rw [ct.1 0 (by decide)]) (ct.2.1 1 (by decide) (by decide) (by decide) (by omega) (by decide))) (hC.eq md.eq (ct.eq t7)) (fun x hx => ?_) (fun x hx => ?_)
      · rw [vau_at, a36, upd_upd, tabW, hv]
        by_cases cx : x = m + 1
        · rw [cx, upd_at, upd_at]
        · rw [upd_ne cx, upd_ne cx]
          exact hA x (by omega)
      · rw [vau_at, c192, tabW, hv]
        by_cases cx : x = m + 1
        · rw [cx, upd_at, upd_at]
        · rw [upd_ne cx, upd_ne cx]
          exact hAc x (by omega)
    rw [fX11_takings_b21, fX12_takings_b19, if_neg nall, if_neg n64, if_neg nall']
    unfold fX11_takings_b76 fX12_takings_b95
    rcases Bool.eq_false_or_eq_true (stAll T (keep P (m + 1))) with cs | cs
    · obtain ⟨v', σc, σm, g1, g2, g3⟩ := go (sumB (tabW (fun s => stAll T (keep P s)) m) (m + 1) 6) (by rw [cs, if_pos rfl])
      have er : rF (-2) (fal (st0 T (keep P (m + 1))) (keep P (m + 1)).1 0) < 0 := e.2 cs
      refine ⟨v', σc, σm, ?_, ?_, g3⟩
      · have nb : ¬ b2 true = 0 := by decide
        simp -implicitDefEqProofs (disch := first | assumption | omega | decide | exact And.intro (by omega) (by omega)) only [cck_0, cr0_0, cr0_1, cr0_2, cr0_3, cg0_4, cp0_4, cg0_5, cp0_5, cck_1, cg1_0, cp1_0, cr1_1, cr1_2, cr1_3, cg1_4, cp1_4, cg1_5, cp1_5, cr1_6, cr1_7, cck_2, cr2_0, cr2_1, cr2_2, cck_3, cr3_0, cr3_1, cg3_2, cp3_2, cg3_3, cp3_3, cg3_4, cp3_4, cg3_5, cp3_5, cg3_6, cp3_6, cg3_7, cp3_7, cg3_8, cp3_8, cck_4, cg4_0, cp4_0, cg4_1, cp4_1, cr4_2, cr4_3, cr4_4, cr4_5, cck_5, cg5_0, cp5_0, cr5_1, cr5_2, cr5_3, cck_6, cg6_0, cp6_0, cg6_1, cp6_1, cck_7, cg7_0, cp7_0, cg7_1, cp7_1, cr7_2, cr7_3, cr7_4, cr7_5, cr7_6, cr7_7, cr7_8, cck_8, cr8_0, cr8_1, cck_9, cr9_0, cr9_1, cr9_2, cr9_3, cg9_4, cp9_4, cck_10, cg10_0, cp10_0, cr10_1, cr10_2, cr10_3, cr10_4, cg10_5, cp10_5, cr10_6, cr10_7, cr10_8, cg10_9, cp10_9, cg10_10, cp10_10, cr10_11, cr10_12, cr10_13, cr10_14, cck_11, cr11_0, cg11_1, cp11_1, cr11_2, cr11_3, cr11_4, cr11_5, cr11_6, cr11_7, cr11_8, cr11_9, cr11_10, cr11_11, cr11_12, cr11_13, cr11_14, ca_30, cs_30, ca_31, cs_31, ca_32, cs_32, ca_33, cs_33, ca_34, cs_34, ca_35, cs_35, ca_36, cs_36, ca_37, cs_37, ca_38, cs_38, ca_39, cs_39, ca_40, cs_40, ca_41, cs_41, ca_42, cs_42, car_20, car_21, car_22, cq11_3, cq11_4, cq3_1, cq0_0, cq0_1, if_true, if_false, Option.bind_some, cb_e, lt_e, nI_1, hs_nar2, nh4, upd_at, vau_at, ca_42_0, cs_42_0, c1, hr0, c2, cs, if_neg nb, c_waysOn hm64, eqc]
        exact g1
      · simp -implicitDefEqProofs (disch := first | assumption | omega | decide | exact And.intro (by omega) (by omega)) only [mck, mg_0, mp_0, mr_1, mg_2, mp_2, mr_3, mg_4, mp_4, mr_5, mr_6, mr_7, mr_8, mr_9, mg_10, mp_10, mg_11, mp_11, mg_12, mp_12, mg_13, mp_13, mg_14, mp_14, mg_15, mp_15, mg_16, mp_16, mg_17, mp_17, mg_18, mp_18, mg_19, mp_19, mg_20, mp_20, mr_21, mr_22, mr_23, mr_24, mr_25, mr_26, mr_27, mr_28, mr_29, mr_30, mr_31, mr_32, mg_33, mp_33, mr_34, mr_35, mr_36, mr_37, mr_38, mg_39, mp_39, mr_40, mr_41, mr_42, mg_43, mp_43, mr_44, mr_45, mg_46, mp_46, mr_47, mr_48, mg_49, mp_49, mg_50, mp_50, mg_51, mp_51, mr_52, mr_53, mr_54, mg_55, mp_55, mr_56, mr_57, mg_58, mp_58, mg_59, mp_59, mg_60, mp_60, mr_61, mg_62, mp_62, mr_63, mr_64, mr_65, mr_66, mr_67, mr_68, ma_1, ms_1, ma_2, ms_2, ma_3, ms_3, ma_4, ms_4, ma_5, ms_5, ma_6, ms_6, ma_7, ms_7, ma_8, ms_8, ma_9, ms_9, ma_10, ms_10, ma_11, ms_11, ma_12, ms_12, ma_13, ms_13, ma_14, ms_14, ma_15, ms_15, ma_16, ms_16, ma_17, ms_17, ma_18, ms_18, ma_19, ms_19, ma_20, ms_20, ma_21, ms_21, ma_22, ms_22, ma_23, ms_23, ma_24, ms_24, ma_25, ms_25, ma_26, ms_26, ma_27, ms_27, ma_28, ms_28, ma_29, ms_29, ma_30, ms_30, ma_31, ms_31, ma_32, ms_32, ma_33, ms_33, ma_34, ms_34, ma_35, ms_35, ma_36, ms_36, ma_37, ms_37, ma_38, ms_38, ma_39, ms_39, ma_40, ms_40, ma_41, ms_41, ma_42, ms_42, ma_43, ms_43, if_true, if_false, Option.bind_some, cb_e, lt_e, nI_1, hs_nar2, nh4, upd_at, vau_at, ma_30_18, ms_30_18, ma_31_18, ms_31_18, ma_28_0, ms_28_0, ma_28_1, ms_28_1, ma_28_2, ms_28_2, ma_28_3, ms_28_3, ma_28_4, ms_28_4, ma_42_0, ms_42_0, ma_42_1, ms_42_1, ma_42_2, ms_42_2, ma_36_0, ms_36_0, m1, m2, if_pos er]
        have mw := m_waysOn (F := F1) (B := B1) hn6 hm64 (by omega) (tabW (fun s => stAll T (keep P s)) m) (nI (2 ^ n)) (fX12_takings_b19 fuel') n 0 FU (by omega) (by unfold FU; omega) A1 hsz (by rw [a36, upd_at]; rfl) (fun x hx => by rw [a36, upd_ne (by omega)]; exact hA x (by omega))
        rw [show (0 : Int32) = nI 0 from rfl, mw, eqs]
        exact g2
    · obtain ⟨v', σc, σm, g1, g2, g3⟩ := go 0 (by rw [cs]; rfl)
      have er : ¬ rF (-2) (fal (st0 T (keep P (m + 1))) (keep P (m + 1)).1 0) < 0 := fun q => by
        have := e.1 q
        unfold stAll at cs
        rw [cs] at this
        cases this
      refine ⟨v', σc, σm, ?_, ?_, g3⟩
      · have nb : b2 false = 0 := by decide
        simp -implicitDefEqProofs (disch := first | assumption | omega | decide | exact And.intro (by omega) (by omega)) only [cck_0, cr0_0, cr0_1, cr0_2, cr0_3, cg0_4, cp0_4, cg0_5, cp0_5, cck_1, cg1_0, cp1_0, cr1_1, cr1_2, cr1_3, cg1_4, cp1_4, cg1_5, cp1_5, cr1_6, cr1_7, cck_2, cr2_0, cr2_1, cr2_2, cck_3, cr3_0, cr3_1, cg3_2, cp3_2, cg3_3, cp3_3, cg3_4, cp3_4, cg3_5, cp3_5, cg3_6, cp3_6, cg3_7, cp3_7, cg3_8, cp3_8, cck_4, cg4_0, cp4_0, cg4_1, cp4_1, cr4_2, cr4_3, cr4_4, cr4_5, cck_5, cg5_0, cp5_0, cr5_1, cr5_2, cr5_3, cck_6, cg6_0, cp6_0, cg6_1, cp6_1, cck_7, cg7_0, cp7_0, cg7_1, cp7_1, cr7_2, cr7_3, cr7_4, cr7_5, cr7_6, cr7_7, cr7_8, cck_8, cr8_0, cr8_1, cck_9, cr9_0, cr9_1, cr9_2, cr9_3, cg9_4, cp9_4, cck_10, cg10_0, cp10_0, cr10_1, cr10_2, cr10_3, cr10_4, cg10_5, cp10_5, cr10_6, cr10_7, cr10_8, cg10_9, cp10_9, cg10_10, cp10_10, cr10_11, cr10_12, cr10_13, cr10_14, cck_11, cr11_0, cg11_1, cp11_1, cr11_2, cr11_3, cr11_4, cr11_5, cr11_6, cr11_7, cr11_8, cr11_9, cr11_10, cr11_11, cr11_12, cr11_13, cr11_14, ca_30, cs_30, ca_31, cs_31, ca_32, cs_32, ca_33, cs_33, ca_34, cs_34, ca_35, cs_35, ca_36, cs_36, ca_37, cs_37, ca_38, cs_38, ca_39, cs_39, ca_40, cs_40, ca_41, cs_41, ca_42, cs_42, car_20, car_21, car_22, cq11_3, cq11_4, cq3_1, cq0_0, cq0_1, if_true, if_false, Option.bind_some, cb_e, lt_e, nI_1, hs_nar2, nh4, upd_at, vau_at, ca_42_0, cs_42_0, c1, hr0, c2, cs, if_pos nb]
        exact g1
      · simp -implicitDefEqProofs (disch := first | assumption | omega | decide | exact And.intro (by omega) (by omega)) only [mck, mg_0, mp_0, mr_1, mg_2, mp_2, mr_3, mg_4, mp_4, mr_5, mr_6, mr_7, mr_8, mr_9, mg_10, mp_10, mg_11, mp_11, mg_12, mp_12, mg_13, mp_13, mg_14, mp_14, mg_15, mp_15, mg_16, mp_16, mg_17, mp_17, mg_18, mp_18, mg_19, mp_19, mg_20, mp_20, mr_21, mr_22, mr_23, mr_24, mr_25, mr_26, mr_27, mr_28, mr_29, mr_30, mr_31, mr_32, mg_33, mp_33, mr_34, mr_35, mr_36, mr_37, mr_38, mg_39, mp_39, mr_40, mr_41, mr_42, mg_43, mp_43, mr_44, mr_45, mg_46, mp_46, mr_47, mr_48, mg_49, mp_49, mg_50, mp_50, mg_51, mp_51, mr_52, mr_53, mr_54, mg_55, mp_55, mr_56, mr_57, mg_58, mp_58, mg_59, mp_59, mg_60, mp_60, mr_61, mg_62, mp_62, mr_63, mr_64, mr_65, mr_66, mr_67, mr_68, ma_1, ms_1, ma_2, ms_2, ma_3, ms_3, ma_4, ms_4, ma_5, ms_5, ma_6, ms_6, ma_7, ms_7, ma_8, ms_8, ma_9, ms_9, ma_10, ms_10, ma_11, ms_11, ma_12, ms_12, ma_13, ms_13, ma_14, ms_14, ma_15, ms_15, ma_16, ms_16, ma_17, ms_17, ma_18, ms_18, ma_19, ms_19, ma_20, ms_20, ma_21, ms_21, ma_22, ms_22, ma_23, ms_23, ma_24, ms_24, ma_25, ms_25, ma_26, ms_26, ma_27, ms_27, ma_28, ms_28, ma_29, ms_29, ma_30, ms_30, ma_31, ms_31, ma_32, ms_32, ma_33, ms_33, ma_34, ms_34, ma_35, ms_35, ma_36, ms_36, ma_37, ms_37, ma_38, ms_38, ma_39, ms_39, ma_40, ms_40, ma_41, ms_41, ma_42, ms_42, ma_43, ms_43, if_true, if_false, Option.bind_some, cb_e, lt_e, nI_1, hs_nar2, nh4, upd_at, vau_at, ma_30_18, ms_30_18, ma_31_18, ms_31_18, ma_28_0, ms_28_0, ma_28_1, ms_28_1, ma_28_2, ms_28_2, ma_28_3, ms_28_3, ma_28_4, ms_28_4, ma_42_0, ms_42_0, ma_42_1, ms_42_1, ma_42_2, ms_42_2, ma_36_0, ms_36_0, m1, m2, if_neg er]
        have : va_up A1 36 (upd (A1 36) (m + 1) 0) = A1 := by
          rw [a36, upd_upd, ← a36, vau_id]
        rw [this] at g2
        exact g2
theorem ag_takings : Ag_ Rel fX11_takings fX12_takings := by
  intro σc σm hR
  obtain ⟨F, A, B, Fc, Ac, Bc, rc, t, lv, T, u, w, ps, n7, sp, rfl, rfl, hT, hC⟩ := id hR
  have h6 := hC.goodP.1
  have hsz := hC.crow.2.2.2.1.1
  have ms := hC.mp.1
  rw [Nat.zero_add] at ms
  obtain ⟨w1, w2⟩ := pow_pos' (ps u).1 h6
  have hp := bit_p (ps u).1 h6
  have sub1 : nI (2 ^ (ps u).1) - 1 = nI (2 ^ (ps u).1 - 1) := pk_sub (b := 1) w1
  have t7 := hC.t7
  have hC2 : Core F (va_up A 36 (upd (A 36) 0 1)) B Fc (va_up Ac 192 (upd (Ac 192) 0 1)) Bc rc t lv T u w ps n7 sp := hC.eq ⟨⟨rfl, rfl, rfl, rfl⟩, fun c hc => vau_ne (by unfold KM at hc; omega), rfl⟩ ⟨⟨rfl, rfl, fun _ _ => rfl⟩, fun c hc => vau_ne (by unfold KA at hc; omega), rfl, rfl, rfl⟩
  obtain ⟨v, σc, σm, g1, g2, g3⟩ := takings_go (T := T) (n := (ps u).1) (P := ps u) rfl rfl (2 ^ (ps u).1 - 1) 0 FU FU (by omega) (by unfold FU; omega) (by unfold FU; omega) (hT.eq rfl (vau_ne (by decide)) rfl (vau_ne (by decide))) hC2 (fun x hx => by
    have : x = 0 := by omega
    subst this
    rw [vau_at, upd_at]; rfl) (fun x hx => by
    have : x = 0 := by omega
    subst this
    rw [vau_at, upd_at]; rfl)
  refine ⟨v, σc, σm, ?_, ?_, g3⟩
  · unfold fX11_takings
    simp -implicitDefEqProofs (disch := first | assumption | omega | decide | exact And.intro (by omega) (by omega)) only [cck_0, cr0_0, cr0_1, cr0_2, cr0_3, cg0_4, cp0_4, cg0_5, cp0_5, cck_1, cg1_0, cp1_0, cr1_1, cr1_2, cr1_3, cg1_4, cp1_4, cg1_5, cp1_5, cr1_6, cr1_7, cck_2, cr2_0, cr2_1, cr2_2, cck_3, cr3_0, cr3_1, cg3_2, cp3_2, cg3_3, cp3_3, cg3_4, cp3_4, cg3_5, cp3_5, cg3_6, cp3_6, cg3_7, cp3_7, cg3_8, cp3_8, cck_4, cg4_0, cp4_0, cg4_1, cp4_1, cr4_2, cr4_3, cr4_4, cr4_5, cck_5, cg5_0, cp5_0, cr5_1, cr5_2, cr5_3, cck_6, cg6_0, cp6_0, cg6_1, cp6_1, cck_7, cg7_0, cp7_0, cg7_1, cp7_1, cr7_2, cr7_3, cr7_4, cr7_5, cr7_6, cr7_7, cr7_8, cck_8, cr8_0, cr8_1, cck_9, cr9_0, cr9_1, cr9_2, cr9_3, cg9_4, cp9_4, cck_10, cg10_0, cp10_0, cr10_1, cr10_2, cr10_3, cr10_4, cg10_5, cp10_5, cr10_6, cr10_7, cr10_8, cg10_9, cp10_9, cg10_10, cp10_10, cr10_11, cr10_12, cr10_13, cr10_14, cck_11, cr11_0, cg11_1, cp11_1, cr11_2, cr11_3, cr11_4, cr11_5, cr11_6, cr11_7, cr11_8, cr11_9, cr11_10, cr11_11, cr11_12, cr11_13, cr11_14, ca_30, cs_30, ca_31, cs_31, ca_32, cs_32, ca_33, cs_33, ca_34, cs_34, ca_35, cs_35, ca_36, cs_36, ca_37, cs_37, ca_38, cs_38, ca_39, cs_39, ca_40, cs_40, ca_41, cs_41, ca_42, cs_42, car_20, car_21, car_22, cq11_3, cq11_4, cq3_1, cq0_0, cq0_1, if_true, if_false, Option.bind_some, cb_e, lt_e, nI_1, hs_nar2, nh4, upd_at, vau_at, ca_42_0, cs_42_0, hsz, hp, sub1]
    exact g1
  · unfold fX12_takings
    simp -implicitDefEqProofs (disch := first | assumption | omega | decide | exact And.intro (by omega) (by omega)) only [mck, mg_0, mp_0, mr_1, mg_2, mp_2, mr_3, mg_4, mp_4, mr_5, mr_6, mr_7, mr_8, mr_9, mg_10, mp_10, mg_11, mp_11, mg_12, mp_12, mg_13, mp_13, mg_14, mp_14, mg_15, mp_15, mg_16, mp_16, mg_17, mp_17, mg_18, mp_18, mg_19, mp_19, mg_20, mp_20, mr_21, mr_22, mr_23, mr_24, mr_25, mr_26, mr_27, mr_28, mr_29, mr_30, mr_31, mr_32, mg_33, mp_33, mr_34, mr_35, mr_36, mr_37, mr_38, mg_39, mp_39, mr_40, mr_41, mr_42, mg_43, mp_43, mr_44, mr_45, mg_46, mp_46, mr_47, mr_48, mg_49, mp_49, mg_50, mp_50, mg_51, mp_51, mr_52, mr_53, mr_54, mg_55, mp_55, mr_56, mr_57, mg_58, mp_58, mg_59, mp_59, mg_60, mp_60, mr_61, mg_62, mp_62, mr_63, mr_64, mr_65, mr_66, mr_67, mr_68, ma_1, ms_1, ma_2, ms_2, ma_3, ms_3, ma_4, ms_4, ma_5, ms_5, ma_6, ms_6, ma_7, ms_7, ma_8, ms_8, ma_9, ms_9, ma_10, ms_10, ma_11, ms_11, ma_12, ms_12, ma_13, ms_13, ma_14, ms_14, ma_15, ms_15, ma_16, ms_16, ma_17, ms_17, ma_18, ms_18, ma_19, ms_19, ma_20, ms_20, ma_21, ms_21, ma_22, ms_22, ma_23, ms_23, ma_24, ms_24, ma_25, ms_25, ma_26, ms_26, ma_27, ms_27, ma_28, ms_28, ma_29, ms_29, ma_30, ms_30, ma_31, ms_31, ma_32, ms_32, ma_33, ms_33, ma_34, ms_34, ma_35, ms_35, ma_36, ms_36, ma_37, ms_37, ma_38, ms_38, ma_39, ms_39, ma_40, ms_40, ma_41, ms_41, ma_42, ms_42, ma_43, ms_43, if_true, if_false, Option.bind_some, cb_e, lt_e, nI_1, hs_nar2, nh4, upd_at, vau_at, ma_30_18, ms_30_18, ma_31_18, ms_31_18, ma_28_0, ms_28_0, ma_28_1, ms_28_1, ma_28_2, ms_28_2, ma_28_3, ms_28_3, ma_28_4, ms_28_4, ma_42_0, ms_42_0, ma_42_1, ms_42_1, ma_42_2, ms_42_2, ma_36_0, ms_36_0, ms, hp]
    exact g2
