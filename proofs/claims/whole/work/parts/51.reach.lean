/-! ===== the model's orders; reach ===== -/
theorem m_rev_takes {F : Nat → Int32} {B : Nat → Nat → Int64} {lo hi : Nat} (hh : hi < 6) (g : Nat → Int32) : ∀ k a b fuel, a + b = lo + hi → lo ≤ a → a ≤ b + 1 → b ≤ a + k → k < fuel → ∀ (A : Nat → Nat → Int32), (∀ j, lo ≤ j → j ≤ hi → A 37 j = if j < a ∨ b < j then g (lo + hi - j) else g j) → ∃ A', fX12_takesOrder_b96 fuel 0 (nI a) (nI b) (mkM F A B) = some (1, mkM F A' B) ∧ (∀ j, lo ≤ j → j ≤ hi → A' 37 j = g (lo + hi - j)) ∧ (∀ j, j < lo ∨ hi < j → A' 37 j = A 37 j) ∧ ∀ c, ¬ c = 37 → A' c = A c := by
  have fin : ∀ a b fuel, a + b = lo + hi → lo ≤ a → a ≤ b + 1 → b ≤ a → ∀ (A : Nat → Nat → Int32), (∀ j, lo ≤ j → j ≤ hi → A 37 j = if j < a ∨ b < j then g (lo + hi - j) else g j) → ∃ A', fX12_takesOrder_b96 (fuel + 1) 0 (nI a) (nI b) (mkM F A B) = some (1, mkM F A' B) ∧ (∀ j, lo ≤ j → j ≤ hi → A' 37 j = g (lo + hi - j)) ∧ (∀ j, j < lo ∨ hi < j → A' 37 j = A 37 j) ∧ ∀ c, ¬ c = 37 → A' c = A c := by
    intro a b fuel h1 h2 h3 h4 A hA
    rw [fX12_takesOrder_b96, if_pos (nI_le h4 (by omega))]
    refine ⟨A, rfl, fun j q1 q2 => ?_, fun _ _ => rfl, fun _ _ => rfl⟩
    rw [hA j q1 q2]
    by_cases c : j < a ∨ b < j
    · rw [if_pos c]
    · rw [if_neg c]
      congr 1
      omega
  intro k
  induction k with
  | zero =>
    intro a b fuel h1 h2 h3 h4 h5 A hA
    obtain ⟨fuel, rfl⟩ : ∃ q, fuel = q + 1 := ⟨fuel - 1, by omega⟩
    exact fin a b fuel h1 h2 h3 (by omega) A hA
  | succ k ih =>
    intro a b fuel h1 h2 h3 h4 h5 A hA
    obtain ⟨fuel, rfl⟩ : ∃ q, fuel = q + 1 := ⟨fuel - 1, by omega⟩
    by_cases c : b ≤ a
    · exact fin a b fuel h1 h2 h3 c A hA
    · have ha := hA a (by omega) (by omega)
      have hb := hA b (by omega) (by omega)
      rw [if_neg (by omega)] at ha hb
      obtain ⟨b, rfl⟩ : ∃ q, b = q + 1 := ⟨b - 1, by omega⟩
      rw [fX12_takesOrder_b96, if_neg (nI_ge (by omega) (by omega))]
      simp -implicitDefEqProofs (disch := first | assumption | omega | decide | exact And.intro (by omega) (by omega)) only [mck, mg_0, mp_0, mr_1, mg_2, mp_2, mr_3, mg_4, mp_4, mr_5, mr_6, mr_7, mr_8, mr_9, mg_10, mp_10, mg_11, mp_11, mg_12, mp_12, mg_13, mp_13, mg_14, mp_14, mg_15, mp_15, mg_16, mp_16, mg_17, mp_17, mg_18, mp_18, mg_19, mp_19, mg_20, mp_20, mr_21, mr_22, mr_23, mr_24, mr_25, mr_26, mr_27, mr_28, mr_29, mr_30, mr_31, mr_32, mg_33, mp_33, mr_34, mr_35, mr_36, mr_37, mr_38, mg_39, mp_39, mr_40, mr_41, mr_42, mg_43, mp_43, mr_44, mr_45, mg_46, mp_46, mr_47, mr_48, mg_49, mp_49, mg_50, mp_50, mg_51, mp_51, mr_52, mr_53, mr_54, mg_55, mp_55, mr_56, mr_57, mg_58, mp_58, mg_59, mp_59, mg_60, mp_60, mr_61, mg_62, mp_62, mr_63, mr_64, mr_65, mr_66, mr_67, mr_68, ma_1, ms_1, ma_2, ms_2, ma_3, ms_3, ma_4, ms_4, ma_5, ms_5, ma_6, ms_6, ma_7, ms_7, ma_8, ms_8, ma_9, ms_9, ma_10, ms_10, ma_11, ms_11, ma_12, ms_12, ma_13, ms_13, ma_14, ms_14, ma_15, ms_15, ma_16, ms_16, ma_17, ms_17, ma_18, ms_18, ma_19, ms_19, ma_20, ms_20, ma_21, ms_21, ma_22, ms_22, ma_23, ms_23, ma_24, ms_24, ma_25, ms_25, ma_26, ms_26, ma_27, ms_27, ma_28, ms_28, ma_29, ms_29, ma_30, ms_30, ma_31, ms_31, ma_32, ms_32, ma_33, ms_33, ma_34, ms_34, ma_35, ms_35, ma_36, ms_36, ma_37, ms_37, ma_38, ms_38, ma_39, ms_39, ma_40, ms_40, ma_41, ms_41, ma_42, ms_42, ma_43, ms_43, if_true, if_false, Option.bind_some, cb_e, lt_e, nI_1, hs_nar2, nh4, upd_at, vau_at, ma_30_18, ms_30_18, ma_31_18, ms_31_18, ma_28_0, ms_28_0, ma_28_1, ms_28_1, ma_28_2, ms_28_2, ma_28_3, ms_28_3, ma_28_4, ms_28_4, ma_42_0, ms_42_0, ma_42_1, ms_42_1, ma_42_2, ms_42_2, ma_36_0, ms_36_0, ha, hb, pk_m1, upd_ne, vau_vau]
      obtain ⟨A', z1, z2, z3, z4⟩ := ih (a + 1) b fuel (by omega) (by omega) (by omega) (by omega) (by omega) (va_up A 37 (upd (upd (A 37) a (g (b + 1))) (b + 1) (g a))) (fun j q1 q2 => by
        rw [vau_at]
        by_cases e1 : j = b + 1
        · rw [e1, upd_at, if_pos (by omega)]
          congr 1
          omega
        · rw [upd_ne e1]
          by_cases e2 : j = a
          · rw [e2, upd_at, if_pos (by omega)]
            congr 1
            omega
          · rw [upd_ne e2, hA j q1 q2]
            by_cases c2 : j < a ∨ b + 1 < j
            · rw [if_pos c2, if_pos (by omega)]
            · rw [if_neg c2, if_neg (by omega)])
      refine ⟨A', z1, z2, fun j hj => ?_, fun c hc => by rw [z4 c hc, vau_ne hc]⟩
      rw [z3 j hj, vau_at, upd_ne (by omega), upd_ne (by omega)]
theorem m_rev_next {F : Nat → Int32} {B : Nat → Nat → Int64} {lo hi : Nat} (hh : hi < 6) (g : Nat → Int32) : ∀ k a b fuel, a + b = lo + hi → lo ≤ a → a ≤ b + 1 → b ≤ a + k → k < fuel → ∀ (A : Nat → Nat → Int32), (∀ j, lo ≤ j → j ≤ hi → A 37 j = if j < a ∨ b < j then g (lo + hi - j) else g j) → ∃ A', fX12_nextOrder_b105 fuel 0 (nI a) (nI b) (mkM F A B) = some (1, mkM F A' B) ∧ (∀ j, lo ≤ j → j ≤ hi → A' 37 j = g (lo + hi - j)) ∧ (∀ j, j < lo ∨ hi < j → A' 37 j = A 37 j) ∧ ∀ c, ¬ c = 37 → A' c = A c := by
  have fin : ∀ a b fuel, a + b = lo + hi → lo ≤ a → a ≤ b + 1 → b ≤ a → ∀ (A : Nat → Nat → Int32), (∀ j, lo ≤ j → j ≤ hi → A 37 j = if j < a ∨ b < j then g (lo + hi - j) else g j) → ∃ A', fX12_nextOrder_b105 (fuel + 1) 0 (nI a) (nI b) (mkM F A B) = some (1, mkM F A' B) ∧ (∀ j, lo ≤ j → j ≤ hi → A' 37 j = g (lo + hi - j)) ∧ (∀ j, j < lo ∨ hi < j → A' 37 j = A 37 j) ∧ ∀ c, ¬ c = 37 → A' c = A c := by
    intro a b fuel h1 h2 h3 h4 A hA
    rw [fX12_nextOrder_b105, if_pos (nI_le h4 (by omega))]
    refine ⟨A, rfl, fun j q1 q2 => ?_, fun _ _ => rfl, fun _ _ => rfl⟩
    rw [hA j q1 q2]
    by_cases c : j < a ∨ b < j
    · rw [if_pos c]
    · rw [if_neg c]
      congr 1
      omega
  intro k
  induction k with
  | zero =>
    intro a b fuel h1 h2 h3 h4 h5 A hA
    obtain ⟨fuel, rfl⟩ : ∃ q, fuel = q + 1 := ⟨fuel - 1, by omega⟩
    exact fin a b fuel h1 h2 h3 (by omega) A hA
  | succ k ih =>
    intro a b fuel h1 h2 h3 h4 h5 A hA
    obtain ⟨fuel, rfl⟩ : ∃ q, fuel = q + 1 := ⟨fuel - 1, by omega⟩
    by_cases c : b ≤ a
    · exact fin a b fuel h1 h2 h3 c A hA
    · have ha := hA a (by omega) (by omega)
      have hb := hA b (by omega) (by omega)
      rw [if_neg (by omega)] at ha hb
      obtain ⟨b, rfl⟩ : ∃ q, b = q + 1 := ⟨b - 1, by omega⟩
      rw [fX12_nextOrder_b105, if_neg (nI_ge (by omega) (by omega))]
      simp -implicitDefEqProofs (disch := first | assumption | omega | decide | exact And.intro (by omega) (by omega)) only [mck, mg_0, mp_0, mr_1, mg_2, mp_2, mr_3, mg_4, mp_4, mr_5, mr_6, mr_7, mr_8, mr_9, mg_10, mp_10, mg_11, mp_11, mg_12, mp_12, mg_13, mp_13, mg_14, mp_14, mg_15, mp_15, mg_16, mp_16, mg_17, mp_17, mg_18, mp_18, mg_19, mp_19, mg_20, mp_20, mr_21, mr_22, mr_23, mr_24, mr_25, mr_26, mr_27, mr_28, mr_29, mr_30, mr_31, mr_32, mg_33, mp_33, mr_34, mr_35, mr_36, mr_37, mr_38, mg_39, mp_39, mr_40, mr_41, mr_42, mg_43, mp_43, mr_44, mr_45, mg_46, mp_46, mr_47, mr_48, mg_49, mp_49, mg_50, mp_50, mg_51, mp_51, mr_52, mr_53, mr_54, mg_55, mp_55, mr_56, mr_57, mg_58, mp_58, mg_59, mp_59, mg_60, mp_60, mr_61, mg_62, mp_62, mr_63, mr_64, mr_65, mr_66, mr_67, mr_68, ma_1, ms_1, ma_2, ms_2, ma_3, ms_3, ma_4, ms_4, ma_5, ms_5, ma_6, ms_6, ma_7, ms_7, ma_8, ms_8, ma_9, ms_9, ma_10, ms_10, ma_11, ms_11, ma_12, ms_12, ma_13, ms_13, ma_14, ms_14, ma_15, ms_15, ma_16, ms_16, ma_17, ms_17, ma_18, ms_18, ma_19, ms_19, ma_20, ms_20, ma_21, ms_21, ma_22, ms_22, ma_23, ms_23, ma_24, ms_24, ma_25, ms_25, ma_26, ms_26, ma_27, ms_27, ma_28, ms_28, ma_29, ms_29, ma_30, ms_30, ma_31, ms_31, ma_32, ms_32, ma_33, ms_33, ma_34, ms_34, ma_35, ms_35, ma_36, ms_36, ma_37, ms_37, ma_38, ms_38, ma_39, ms_39, ma_40, ms_40, ma_41, ms_41, ma_42, ms_42, ma_43, ms_43, if_true, if_false, Option.bind_some, cb_e, lt_e, nI_1, hs_nar2, nh4, upd_at, vau_at, ma_30_18, ms_30_18, ma_31_18, ms_31_18, ma_28_0, ms_28_0, ma_28_1, ms_28_1, ma_28_2, ms_28_2, ma_28_3, ms_28_3, ma_28_4, ms_28_4, ma_42_0, ms_42_0, ma_42_1, ms_42_1, ma_42_2, ms_42_2, ma_36_0, ms_36_0, ha, hb, pk_m1, upd_ne, vau_vau]
      obtain ⟨A', z1, z2, z3, z4⟩ := ih (a + 1) b fuel (by omega) (by omega) (by omega) (by omega) (by omega) (va_up A 37 (upd (upd (A 37) a (g (b + 1))) (b + 1) (g a))) (fun j q1 q2 => by
        rw [vau_at]
        by_cases e1 : j = b + 1
        · rw [e1, upd_at, if_pos (by omega)]
          congr 1
          omega
        · rw [upd_ne e1]
          by_cases e2 : j = a
          · rw [e2, upd_at, if_pos (by omega)]
            congr 1
            omega
          · rw [upd_ne e2, hA j q1 q2]
            by_cases c2 : j < a ∨ b + 1 < j
            · rw [if_pos c2, if_pos (by omega)]
            · rw [if_neg c2, if_neg (by omega)])
      refine ⟨A', z1, z2, fun j hj => ?_, fun c hc => by rw [z4 c hc, vau_ne hc]⟩
      rw [z3 j hj, vau_at, upd_ne (by omega), upd_ne (by omega)]
theorem m_takes_go {F : Nat → Int32} {B : Nat → Nat → Int64} {lv nb : Nat} (h18 : F 18 = nI lv) (hlv : lv ≤ 1) (hnb : nb ≤ 6) : ∀ k n fuel r s, n + k = 6 → k < fuel → r < 10 ^ k → s < 64 → ∀ (A : Nat → Nat → Int32), A 9 lv = nI nb → (∀ L, digs nb k r s = some L → n + L.length ≤ 6 ∧ (∀ d ∈ L, d < nb) ∧ ∃ A', fX12_takesOrder_b21 fuel 0 (nI r) (nI n) (nI s) (mkM F A B) = fX12_takesOrder_b83 0 (nI (n + L.length)) (mkM F A' B) ∧ (∀ j, j < n → A' 37 j = A 37 j) ∧ (∀ j, j < L.length → A' 37 (n + j) = nI (L.getD j 0)) ∧ ∀ c, ¬ c = 37 → A' c = A c) ∧ (digs nb k r s = none → ∃ A', fX12_takesOrder_b21 fuel 0 (nI r) (nI n) (nI s) (mkM F A B) = some (0, mkM F A' B) ∧ ∀ c, ¬ c = 37 → A' c = A c) := by
  have emp : ∀ n fuel s, n ≤ 6 → ∀ (A : Nat → Nat → Int32) L, some [] = some L → n + L.length ≤ 6 ∧ (∀ d ∈ L, d < nb) ∧ ∃ A', fX12_takesOrder_b21 (fuel + 1) 0 (nI 0) (nI n) (nI s) (mkM F A B) = fX12_takesOrder_b83 0 (nI (n + L.length)) (mkM F A' B) ∧ (∀ j, j < n → A' 37 j = A 37 j) ∧ (∀ j, j < L.length → A' 37 (n + j) = nI (L.getD j 0)) ∧ ∀ c, ¬ c = 37 → A' c = A c := by
    intro n fuel s hn A L hL
    cases hL
    refine ⟨hn, fun d hd => (by cases hd), A, ?_, fun _ _ => rfl, fun j hj => (by cases hj), fun _ _ => rfl⟩
    rw [fX12_takesOrder_b21, if_pos (by decide)]
    rfl
  intro k
  induction k with
  | zero =>
    intro n fuel r s h1 h2 h3 h4 A hA
    obtain ⟨fuel, rfl⟩ : ∃ q, fuel = q + 1 := ⟨fuel - 1, by omega⟩
    have : r = 0 := by omega
    subst this
    refine ⟨fun L hL => ?_, fun hL => ?_⟩
    · rw [digs, if_pos rfl] at hL
      exact emp n fuel s (by omega) A L hL
    · rw [digs, if_pos rfl] at hL
      cases hL
  | succ k ih =>
    intro n fuel r s h1 h2 h3 h4 A hA
    obtain ⟨fuel, rfl⟩ : ∃ q, fuel = q + 1 := ⟨fuel - 1, by omega⟩
    have r6 : r < 10 ^ 6 := Nat.lt_of_lt_of_le h3 (Nat.pow_le_pow_right (by decide) (by omega))
    have hr : r < 2 ^ 31 := Nat.lt_of_lt_of_le r6 (by decide)
    by_cases c : r = 0
    · subst c
      rw [digs, if_pos rfl]
      exact ⟨fun L hL => emp n fuel s (by omega) A L hL, fun hL => by cases hL⟩
    · have l10 : r % 10 < 10 := Nat.mod_lt _ (by decide)
      have r10 : r / 10 < 10 ^ k := by
        rw [Nat.pow_succ] at h3
        omega
      have v11 : hs_rem (nI r) 10 - 1 = iI ((r % 10 : Nat) - 1 : Int) := by
        rw [n_rem10 hr]
        exact iI_sub ((r % 10 : Nat) : Int) 1
      have hib := m_isBook (F := F) (A := A) (B := B) (x := ((r % 10 : Nat) - 1 : Int)) ⟨by omega, by omega⟩ h18 hlv hA hnb
      rw [digs, if_neg c, fX12_takesOrder_b21, if_neg (nI_nle (by omega) hr), lt_e, v11, hib]
      simp -implicitDefEqProofs only [cb_e, Option.bind_some]
      by_cases c1 : 1 ≤ r % 10 ∧ r % 10 ≤ nb
      · have hd6 : r % 10 - 1 < 6 := by omega
        have ev : iI ((r % 10 : Nat) - 1 : Int) = nI (r % 10 - 1) := by rw [iI_nI]; congr 1; omega
        have hb := bit_m s h4 (r % 10 - 1) hd6
        rw [decide_eq_true (show (0 : Int) ≤ ((r % 10 : Nat) - 1 : Int) ∧ ((r % 10 : Nat) - 1 : Int) < nb by omega), if_neg (show ¬ b2 true = 0 by decide), ev, hb]
        by_cases c3 : s / 2 ^ (r % 10 - 1) % 2 = 1
        · rw [if_pos (show nI (s / 2 ^ (r % 10 - 1) % 2) = 1 by rw [c3]; rfl), if_neg (fun q => q.2.2 c3)]
          exact ⟨fun L hL => (by cases hL), fun _ => ⟨A, rfl, fun _ _ => rfl⟩⟩
        · obtain ⟨s1, s2⟩ := bit_set s h4 _ hd6 c3
          rw [if_neg (show ¬ nI (s / 2 ^ (r % 10 - 1) % 2) = 1 from fun q => c3 ((nI_eq (b := 1) (by omega) (by decide)).1 q)), if_pos ⟨c1.1, c1.2, c3⟩]
          have hn6 : n < 6 := by omega
          simp -implicitDefEqProofs (disch := first | assumption | omega | decide | exact And.intro (by omega) (by omega)) only [mck, mg_0, mp_0, mr_1, mg_2, mp_2, mr_3, mg_4, mp_4, mr_5, mr_6, mr_7, mr_8, mr_9, mg_10, mp_10, mg_11, mp_11, mg_12, mp_12, mg_13, mp_13, mg_14, mp_14, mg_15, mp_15, mg_16, mp_16, mg_17, mp_17, mg_18, mp_18, mg_19, mp_19, mg_20, mp_20, mr_21, mr_22, mr_23, mr_24, mr_25, mr_26, mr_27, mr_28, mr_29, mr_30, mr_31, mr_32, mg_33, mp_33, mr_34, mr_35, mr_36, mr_37, mr_38, mg_39, mp_39, mr_40, mr_41, mr_42, mg_43, mp_43, mr_44, mr_45, mg_46, mp_46, mr_47, mr_48, mg_49, mp_49, mg_50, mp_50, mg_51, mp_51, mr_52, mr_53, mr_54, mg_55, mp_55, mr_56, mr_57, mg_58, mp_58, mg_59, mp_59, mg_60, mp_60, mr_61, mg_62, mp_62, mr_63, mr_64, mr_65, mr_66, mr_67, mr_68, ma_1, ms_1, ma_2, ms_2, ma_3, ms_3, ma_4, ms_4, ma_5, ms_5, ma_6, ms_6, ma_7, ms_7, ma_8, ms_8, ma_9, ms_9, ma_10, ms_10, ma_11, ms_11, ma_12, ms_12, ma_13, ms_13, ma_14, ms_14, ma_15, ms_15, ma_16, ms_16, ma_17, ms_17, ma_18, ms_18, ma_19, ms_19, ma_20, ms_20, ma_21, ms_21, ma_22, ms_22, ma_23, ms_23, ma_24, ms_24, ma_25, ms_25, ma_26, ms_26, ma_27, ms_27, ma_28, ms_28, ma_29, ms_29, ma_30, ms_30, ma_31, ms_31, ma_32, ms_32, ma_33, ms_33, ma_34, ms_34, ma_35, ms_35, ma_36, ms_36, ma_37, ms_37, ma_38, ms_38, ma_39, ms_39, ma_40, ms_40, ma_41, ms_41, ma_42, ms_42, ma_43, ms_43, if_true, if_false, Option.bind_some, cb_e, lt_e, nI_1, hs_nar2, nh4, upd_at, vau_at, ma_30_18, ms_30_18, ma_31_18, ms_31_18, ma_28_0, ms_28_0, ma_28_1, ms_28_1, ma_28_2, ms_28_2, ma_28_3, ms_28_3, ma_28_4, ms_28_4, ma_42_0, ms_42_0, ma_42_1, ms_42_1, ma_42_2, ms_42_2, ma_36_0, ms_36_0, s2, n_div10 hr]
          obtain ⟨i1, i2⟩ := ih (n + 1) fuel (r / 10) (s + 2 ^ (r % 10 - 1)) (by omega) (by omega) r10 s1 (va_up A 37 (upd (A 37) n (nI (r % 10 - 1)))) (by rw [vau_ne (by decide)]; exact hA)
          refine ⟨fun L hL => ?_, fun hL => ?_⟩
          · cases hq : digs nb k (r / 10) (s + 2 ^ (r % 10 - 1)) with
            | none => rw [hq] at hL; cases hL
            | some L2 =>
              rw [hq] at hL
              cases hL
              obtain ⟨j1, j2, A', z1, z2, z3, z4⟩ := i1 L2 hq
              refine ⟨by rw [List.length_cons]; omega, fun d hd => ?_, A', ?_, fun j hj => ?_, fun j hj => ?_, fun c hc => by rw [z4 c hc, vau_ne hc]⟩
              · rcases List.mem_cons.1 hd with rfl | hd
                · omega
                · exact j2 d hd
              · rw [z1, List.length_cons]
                congr 2
                omega
              · rw [z2 j (by omega), vau_at, upd_ne (by omega)]
              · cases j with
                | zero =>
                  rw [Nat.add_zero, z2 n (by omega), vau_at, upd_at]
                  rfl
                | succ j =>
                  rw [List.length_cons] at hj
                  have := z3 j (by omega)
                  rw [show n + (j + 1) = n + 1 + j by omega, this]
                  rfl
          · cases hq : digs nb k (r / 10) (s + 2 ^ (r % 10 - 1)) with
            | some L2 => rw [hq] at hL; cases hL
            | none =>
              obtain ⟨A', z1, z2⟩ := i2 hq
              exact ⟨A', z1, fun c hc => by rw [z2 c hc, vau_ne hc]⟩
      · rw [decide_eq_false (show ¬ ((0 : Int) ≤ ((r % 10 : Nat) - 1 : Int) ∧ ((r % 10 : Nat) - 1 : Int) < nb) by omega), if_pos (show b2 false = 0 by decide), if_neg (fun q => c1 ⟨q.1, q.2.1⟩)]
        exact ⟨fun L hL => (by cases hL), fun _ => ⟨A, rfl, fun _ _ => rfl⟩⟩
def OrdA (A : Nat → Nat → Int32) (nb : Nat) (O : List Nat) : Prop := O.length ≤ 6 ∧ ∀ j, j < O.length → A 37 j = nI (O.getD j 0) ∧ O.getD j 0 < nb
theorem take_rev {O : List Nat} {k : Nat} (h : k < O.length) : (O.take (k + 1)).reverse = O.getD k 0 :: (O.take k).reverse := by
  rw [List.take_add_one, List.getElem?_eq_getElem h, List.reverse_append, List.getD_eq_getElem?_getD, List.getElem?_eq_getElem h]
  rfl
theorem m_reaches_go {F : Nat → Int32} {A : Nat → Nat → Int32} {lv : Nat} {T : TD} (hT : GoodT T) (hx : MText A lv T) (h18 : F 18 = nI lv) (hlv : lv ≤ 1) {O : List Nat} (hO : OrdA A (tNb T) O) : ∀ m i fuel W f, i + m = O.length → m < fuel → W ≤ 20 * i → FrOK i f → ∀ (B : Nat → Nat → Int64), B 0 58 = jN f.1 → B 0 59 = jN f.2 → ∃ B', fX12_reaches_b19 fuel 0 (nI W) (nI m + (-1)) (mkM F A B) = some ((), mkM F A B') ∧ B' 0 58 = jN (reaL T (O.take m).reverse W f).1 ∧ B' 0 59 = jN (reaL T (O.take m).reverse W f).2 ∧ ∀ d, ¬ d = 0 → B' d = B d := by
  have hnb := hT.1
  have hl := hO.1
  intro m
  induction m with
  | zero =>
    intro i fuel W f h1 h2 h3 hf B e1 e2
    obtain ⟨fuel, rfl⟩ : ∃ q, fuel = q + 1 := ⟨fuel - 1, by omega⟩
    rw [fX12_reaches_b19, if_pos (by decide)]
    exact ⟨B, rfl, e1, e2, fun _ _ => rfl⟩
  | succ m ih =>
    intro i fuel W f h1 h2 h3 hf B e1 e2
    obtain ⟨fuel, rfl⟩ : ∃ q, fuel = q + 1 := ⟨fuel - 1, by omega⟩
    obtain ⟨o1, o2⟩ := hO.2 m (by omega)
    rw [take_rev (by omega), pk_m1, fX12_reaches_b19, if_neg (nI_pos (by omega))]
    generalize O.getD m 0 = d at *
    have x1 := hx.2.1 d o2
    obtain ⟨w1, w2, w3, w4⟩ := wg_n hT o2
    rw [w3, w4] at x1
    have hd12 : 6 * lv + d < 12 := by omega
    have hm6 : m < 6 := by omega
    have hb1 : wn T d * gn T d ≤ 20 * 99 := Nat.mul_le_mul w1.2 w2.2
    have hu : wn T d * gn T d ≤ 50 * (2 * (W + wn T d)) := by
      have q1 : wn T d * gn T d ≤ wn T d * 99 := Nat.mul_le_mul_left _ w2.2
      omega
    obtain ⟨g1, g2, g3⟩ := fr_step (i := i) (a := f.1) (b := f.2) (u := wn T d * gn T d) (l := 2 * (W + wn T d)) hf (by omega) (by omega) (by omega) hu
    obtain ⟨B1, p1, p2, p3, p4⟩ := m_adds (F := F) (A := A) (B := B) e1 e2 hf.1 (by omega) (hf.lt (by omega)).2 (by omega) g1 g2
    obtain ⟨B2, q1, q2, q3, q4⟩ := ih (i + 1) fuel (W + wn T d) _ (by omega) (by omega) (by omega) g3 B1 p2 p3
    simp -implicitDefEqProofs (disch := first | assumption | omega | decide | exact And.intro (by omega) (by omega)) only [mck, mg_0, mp_0, mr_1, mg_2, mp_2, mr_3, mg_4, mp_4, mr_5, mr_6, mr_7, mr_8, mr_9, mg_10, mp_10, mg_11, mp_11, mg_12, mp_12, mg_13, mp_13, mg_14, mp_14, mg_15, mp_15, mg_16, mp_16, mg_17, mp_17, mg_18, mp_18, mg_19, mp_19, mg_20, mp_20, mr_21, mr_22, mr_23, mr_24, mr_25, mr_26, mr_27, mr_28, mr_29, mr_30, mr_31, mr_32, mg_33, mp_33, mr_34, mr_35, mr_36, mr_37, mr_38, mg_39, mp_39, mr_40, mr_41, mr_42, mg_43, mp_43, mr_44, mr_45, mg_46, mp_46, mr_47, mr_48, mg_49, mp_49, mg_50, mp_50, mg_51, mp_51, mr_52, mr_53, mr_54, mg_55, mp_55, mr_56, mr_57, mg_58, mp_58, mg_59, mp_59, mg_60, mp_60, mr_61, mg_62, mp_62, mr_63, mr_64, mr_65, mr_66, mr_67, mr_68, ma_1, ms_1, ma_2, ms_2, ma_3, ms_3, ma_4, ms_4, ma_5, ms_5, ma_6, ms_6, ma_7, ms_7, ma_8, ms_8, ma_9, ms_9, ma_10, ms_10, ma_11, ms_11, ma_12, ms_12, ma_13, ms_13, ma_14, ms_14, ma_15, ms_15, ma_16, ms_16, ma_17, ms_17, ma_18, ms_18, ma_19, ms_19, ma_20, ms_20, ma_21, ms_21, ma_22, ms_22, ma_23, ms_23, ma_24, ms_24, ma_25, ms_25, ma_26, ms_26, ma_27, ms_27, ma_28, ms_28, ma_29, ms_29, ma_30, ms_30, ma_31, ms_31, ma_32, ms_32, ma_33, ms_33, ma_34, ms_34, ma_35, ms_35, ma_36, ms_36, ma_37, ms_37, ma_38, ms_38, ma_39, ms_39, ma_40, ms_40, ma_41, ms_41, ma_42, ms_42, ma_43, ms_43, if_true, if_false, Option.bind_some, cb_e, lt_e, nI_1, hs_nar2, nh4, upd_at, vau_at, ma_30_18, ms_30_18, ma_31_18, ms_31_18, ma_28_0, ms_28_0, ma_28_1, ms_28_1, ma_28_2, ms_28_2, ma_28_3, ms_28_3, ma_28_4, ms_28_4, ma_42_0, ms_42_0, ma_42_1, ms_42_1, ma_42_2, ms_42_2, ma_36_0, ms_36_0, h18, o1, m_mul6, nI_add, x1.1, x1.2, nI_jJ, jN_mul, two_jN, p1]
    exact ⟨B2, q1, q2, q3, fun d hd => by rw [q4 d hd, p4 d hd]⟩
theorem m_reaches {F : Nat → Int32} {A : Nat → Nat → Int32} (B : Nat → Nat → Int64) {lv : Nat} {T : TD} (hT : GoodT T) (hx : MText A lv T) (h18 : F 18 = nI lv) (hlv : lv ≤ 1) {O : List Nat} (hO : OrdA A (tNb T) O) (h60 : F 60 = nI O.length) : ∃ B', fX12_reaches 0 (mkM F A B) = some ((), mkM F A B') ∧ B' 0 58 = jN (reaL T O.reverse 0 (0, 1)).1 ∧ B' 0 59 = jN (reaL T O.reverse 0 (0, 1)).2 ∧ ∀ d, ¬ d = 0 → B' d = B d := by
  obtain ⟨B', q1, q2, q3, q4⟩ := m_reaches_go (F := F) hT hx h18 hlv hO O.length 0 FU 0 (0, 1) (by omega) (by have := hO.1; unfold FU; omega) (by omega) FrOK.zero (va_up (va_up B 0 (vp_updL (B 0) 58 0)) 0 (vp_updL (vp_updL (B 0) 58 0) 59 1)) (by rw [vau_at, updL_ne (by decide), updL_at]; rfl) (by rw [vau_at, updL_at]; rfl)
  rw [List.take_length] at q2 q3
  refine ⟨B', ?_, q2, q3, fun d hd => by rw [q4 d hd, vau_ne hd, vau_ne hd]⟩
  have e : nI O.length - 1 = nI O.length + (-1) := Int32.sub_eq_add_neg _ _
  unfold fX12_reaches
  simp -implicitDefEqProofs (disch := first | assumption | omega | decide | exact And.intro (by omega) (by omega)) only [mck, mg_0, mp_0, mr_1, mg_2, mp_2, mr_3, mg_4, mp_4, mr_5, mr_6, mr_7, mr_8, mr_9, mg_10, mp_10, mg_11, mp_11, mg_12, mp_12, mg_13, mp_13, mg_14, mp_14, mg_15, mp_15, mg_16, mp_16, mg_17, mp_17, mg_18, mp_18, mg_19, mp_19, mg_20, mp_20, mr_21, mr_22, mr_23, mr_24, mr_25, mr_26, mr_27, mr_28, mr_29, mr_30, mr_31, mr_32, mg_33, mp_33, mr_34, mr_35, mr_36, mr_37, mr_38, mg_39, mp_39, mr_40, mr_41, mr_42, mg_43, mp_43, mr_44, mr_45, mg_46, mp_46, mr_47, mr_48, mg_49, mp_49, mg_50, mp_50, mg_51, mp_51, mr_52, mr_53, mr_54, mg_55, mp_55, mr_56, mr_57, mg_58, mp_58, mg_59, mp_59, mg_60, mp_60, mr_61, mg_62, mp_62, mr_63, mr_64, mr_65, mr_66, mr_67, mr_68, ma_1, ms_1, ma_2, ms_2, ma_3, ms_3, ma_4, ms_4, ma_5, ms_5, ma_6, ms_6, ma_7, ms_7, ma_8, ms_8, ma_9, ms_9, ma_10, ms_10, ma_11, ms_11, ma_12, ms_12, ma_13, ms_13, ma_14, ms_14, ma_15, ms_15, ma_16, ms_16, ma_17, ms_17, ma_18, ms_18, ma_19, ms_19, ma_20, ms_20, ma_21, ms_21, ma_22, ms_22, ma_23, ms_23, ma_24, ms_24, ma_25, ms_25, ma_26, ms_26, ma_27, ms_27, ma_28, ms_28, ma_29, ms_29, ma_30, ms_30, ma_31, ms_31, ma_32, ms_32, ma_33, ms_33, ma_34, ms_34, ma_35, ms_35, ma_36, ms_36, ma_37, ms_37, ma_38, ms_38, ma_39, ms_39, ma_40, ms_40, ma_41, ms_41, ma_42, ms_42, ma_43, ms_43, if_true, if_false, Option.bind_some, cb_e, lt_e, nI_1, hs_nar2, nh4, upd_at, vau_at, ma_30_18, ms_30_18, ma_31_18, ms_31_18, ma_28_0, ms_28_0, ma_28_1, ms_28_1, ma_28_2, ms_28_2, ma_28_3, ms_28_3, ma_28_4, ms_28_4, ma_42_0, ms_42_0, ma_42_1, ms_42_1, ma_42_2, ms_42_2, ma_36_0, ms_36_0, h60, e]
  exact q1
theorem reaL_ok {T : TD} (hT : GoodT T) : ∀ (L : List Nat) W f i, FrOK i f → i + L.length ≤ 6 → W ≤ 20 * i → (∀ d ∈ L, d < tNb T) → FrOK (i + L.length) (reaL T L W f)
  | [], _, _, _, hf, _, _, _ => hf
  | d :: L, W, f, i, hf, hl, hW, hd => by
    rw [List.length_cons] at hl ⊢
    obtain ⟨w1, w2, w3, w4⟩ := wg_n hT (hd d (List.mem_cons_self ..))
    have hu : wn T d * gn T d ≤ 50 * (2 * (W + wn T d)) := by
      have q1 : wn T d * gn T d ≤ wn T d * 99 := Nat.mul_le_mul_left _ w2.2
      omega
    obtain ⟨g1, g2, g3⟩ := fr_step (i := i) (a := f.1) (b := f.2) (u := wn T d * gn T d) (l := 2 * (W + wn T d)) hf (by omega) (by omega) (by omega) hu
    have := reaL_ok hT L (W + wn T d) _ (i + 1) g3 (by omega) (by omega) (fun x hx => hd x (List.mem_cons_of_mem _ hx))
    rw [show i + (L.length + 1) = i + 1 + L.length by omega]
    exact this
theorem digs_le {nb : Nat} (hn : nb ≤ 6) : ∀ k r s L, digs nb k r s = some L → 3 * r + 2 ≤ 2 * 10 ^ k
  | 0, r, s, L, h => by
    rw [digs] at h
    by_cases c : r = 0
    · subst c; decide
    · rw [if_neg c] at h; cases h
  | k + 1, r, s, L, h => by
    rw [digs] at h
    by_cases c : r = 0
    · subst c
      have : 1 ≤ 10 ^ (k + 1) := Nat.pow_pos (by decide)
      omega
    · rw [if_neg c] at h
      by_cases c2 : 1 ≤ r % 10 ∧ r % 10 ≤ nb ∧ ¬ s / 2 ^ (r % 10 - 1) % 2 = 1
      · rw [if_pos c2] at h
        cases hq : digs nb k (r / 10) (s + 2 ^ (r % 10 - 1)) with
        | none => rw [hq] at h; cases h
        | some L2 =>
          have := digs_le hn k _ _ L2 hq
          rw [Nat.pow_succ]
          omega
      · rw [if_neg c2] at h; cases h
theorem digs_ne {nb N : Nat} (h0 : 0 < N) {L : List Nat} {k s : Nat} (h : digs nb (k + 1) N s = some L) : 0 < L.length := by
  rw [digs, if_neg (by omega)] at h
  by_cases c2 : 1 ≤ N % 10 ∧ N % 10 ≤ nb ∧ ¬ s / 2 ^ (N % 10 - 1) % 2 = 1
  · rw [if_pos c2] at h
    cases hq : digs nb k (N / 10) (s + 2 ^ (N % 10 - 1)) with
    | none => rw [hq] at h; cases h
    | some L2 =>
      rw [hq] at h
      cases h
      exact Nat.succ_pos _
  · rw [if_neg c2] at h; cases h
theorem getD_rev {L : List Nat} {j : Nat} (h : j < L.length) : L.reverse.getD j 0 = L.getD (L.length - 1 - j) 0 := by
  rw [List.getD_eq_getElem?_getD, List.getD_eq_getElem?_getD, List.getElem?_reverse h]
theorem getD_lt {L : List Nat} {n j : Nat} (h : ∀ d ∈ L, d < n) (hj : j < L.length) : L.getD j 0 < n := by
  rw [List.getD_eq_getElem?_getD, List.getElem?_eq_getElem hj]
  exact h _ (List.getElem_mem hj)
theorem ag_reach : Ag_IB Rel fX11_reach fX12_reach := by
  intro σc σm a bl hbl hR
  obtain ⟨F, A, B, Fc, Ac, Bc, rc, t, lv, T, u, w, ps, n7, sp, rfl, rfl, hT, hC⟩ := id hR
  obtain ⟨x, hx, rfl⟩ := iI_of a
  have hr0 := hC.1.2.1
  have hG := hC.2.1.1
  obtain ⟨Bc1, z1, z2, z3, z4⟩ := c_zero (F := Fc) (A := Ac) Bc (r := rc) (c := 191) rfl
  have i1 : iI x < (1 : Int32) ↔ x < 1 := iI_lt (b := 1) hx ⟨by decide, by decide⟩
  have i2 : iI x ≤ (666666 : Int32) ↔ x ≤ 666666 := iI_le (b := 666666) hx ⟨by decide, by decide⟩
  unfold fX11_reach fX12_reach fX12_takesOrder fX2_measure
  by_cases c0 : x < 1
  · refine ⟨-1, mkC Fc Ac Bc1 rc, mkM F A B, ?_, ?_, rel_ratio hT hC MR.rf ⟨fun _ _ => rfl, fun d hd => z4 d (by omega)⟩⟩
    · simp -implicitDefEqProofs (disch := first | assumption | omega | decide | exact And.intro (by omega) (by omega)) only [cck_0, cr0_0, cr0_1, cr0_2, cr0_3, cg0_4, cp0_4, cg0_5, cp0_5, cck_1, cg1_0, cp1_0, cr1_1, cr1_2, cr1_3, cg1_4, cp1_4, cg1_5, cp1_5, cr1_6, cr1_7, cck_2, cr2_0, cr2_1, cr2_2, cck_3, cr3_0, cr3_1, cg3_2, cp3_2, cg3_3, cp3_3, cg3_4, cp3_4, cg3_5, cp3_5, cg3_6, cp3_6, cg3_7, cp3_7, cg3_8, cp3_8, cck_4, cg4_0, cp4_0, cg4_1, cp4_1, cr4_2, cr4_3, cr4_4, cr4_5, cck_5, cg5_0, cp5_0, cr5_1, cr5_2, cr5_3, cck_6, cg6_0, cp6_0, cg6_1, cp6_1, cck_7, cg7_0, cp7_0, cg7_1, cp7_1, cr7_2, cr7_3, cr7_4, cr7_5, cr7_6, cr7_7, cr7_8, cck_8, cr8_0, cr8_1, cck_9, cr9_0, cr9_1, cr9_2, cr9_3, cg9_4, cp9_4, cck_10, cg10_0, cp10_0, cr10_1, cr10_2, cr10_3, cr10_4, cg10_5, cp10_5, cr10_6, cr10_7, cr10_8, cg10_9, cp10_9, cg10_10, cp10_10, cr10_11, cr10_12, cr10_13, cr10_14, cck_11, cr11_0, cg11_1, cp11_1, cr11_2, cr11_3, cr11_4, cr11_5, cr11_6, cr11_7, cr11_8, cr11_9, cr11_10, cr11_11, cr11_12, cr11_13, cr11_14, ca_30, cs_30, ca_31, cs_31, ca_32, cs_32, ca_33, cs_33, ca_34, cs_34, ca_35, cs_35, ca_36, cs_36, ca_37, cs_37, ca_38, cs_38, ca_39, cs_39, ca_40, cs_40, ca_41, cs_41, ca_42, cs_42, car_20, car_21, car_22, cq11_3, cq11_4, cq3_1, cq0_0, cq0_1, if_true, if_false, Option.bind_some, cb_e, lt_e, nI_1, hs_nar2, nh4, upd_at, vau_at, ca_42_0, cs_42_0, hr0, z1]
      have e : fX2_measure_b18 FU t (iI x) 191 0 0 (iI x) 0 (mkC Fc Ac Bc1 rc) = some (0, mkC Fc Ac Bc1 rc) := by
        rw [show FU = 99999 + 1 from rfl, fX2_measure_b18, if_neg (by decide), if_pos ((iI_le0 hx).2 (by omega))]
        unfold fX2_measure_b126
        rw [if_pos ((iI_le0 hx).2 (by omega))]
      simp -implicitDefEqProofs (disch := first | assumption | omega | decide | exact And.intro (by omega) (by omega)) only [cck_0, cr0_0, cr0_1, cr0_2, cr0_3, cg0_4, cp0_4, cg0_5, cp0_5, cck_1, cg1_0, cp1_0, cr1_1, cr1_2, cr1_3, cg1_4, cp1_4, cg1_5, cp1_5, cr1_6, cr1_7, cck_2, cr2_0, cr2_1, cr2_2, cck_3, cr3_0, cr3_1, cg3_2, cp3_2, cg3_3, cp3_3, cg3_4, cp3_4, cg3_5, cp3_5, cg3_6, cp3_6, cg3_7, cp3_7, cg3_8, cp3_8, cck_4, cg4_0, cp4_0, cg4_1, cp4_1, cr4_2, cr4_3, cr4_4, cr4_5, cck_5, cg5_0, cp5_0, cr5_1, cr5_2, cr5_3, cck_6, cg6_0, cp6_0, cg6_1, cp6_1, cck_7, cg7_0, cp7_0, cg7_1, cp7_1, cr7_2, cr7_3, cr7_4, cr7_5, cr7_6, cr7_7, cr7_8, cck_8, cr8_0, cr8_1, cck_9, cr9_0, cr9_1, cr9_2, cr9_3, cg9_4, cp9_4, cck_10, cg10_0, cp10_0, cr10_1, cr10_2, cr10_3, cr10_4, cg10_5, cp10_5, cr10_6, cr10_7, cr10_8, cg10_9, cp10_9, cg10_10, cp10_10, cr10_11, cr10_12, cr10_13, cr10_14, cck_11, cr11_0, cg11_1, cp11_1, cr11_2, cr11_3, cr11_4, cr11_5, cr11_6, cr11_7, cr11_8, cr11_9, cr11_10, cr11_11, cr11_12, cr11_13, cr11_14, ca_30, cs_30, ca_31, cs_31, ca_32, cs_32, ca_33, cs_33, ca_34, cs_34, ca_35, cs_35, ca_36, cs_36, ca_37, cs_37, ca_38, cs_38, ca_39, cs_39, ca_40, cs_40, ca_41, cs_41, ca_42, cs_42, car_20, car_21, car_22, cq11_3, cq11_4, cq3_1, cq0_0, cq0_1, if_true, if_false, Option.bind_some, cb_e, lt_e, nI_1, hs_nar2, nh4, upd_at, vau_at, ca_42_0, cs_42_0, e]
    · simp -implicitDefEqProofs (disch := first | assumption | omega | decide | exact And.intro (by omega) (by omega)) only [mck, mg_0, mp_0, mr_1, mg_2, mp_2, mr_3, mg_4, mp_4, mr_5, mr_6, mr_7, mr_8, mr_9, mg_10, mp_10, mg_11, mp_11, mg_12, mp_12, mg_13, mp_13, mg_14, mp_14, mg_15, mp_15, mg_16, mp_16, mg_17, mp_17, mg_18, mp_18, mg_19, mp_19, mg_20, mp_20, mr_21, mr_22, mr_23, mr_24, mr_25, mr_26, mr_27, mr_28, mr_29, mr_30, mr_31, mr_32, mg_33, mp_33, mr_34, mr_35, mr_36, mr_37, mr_38, mg_39, mp_39, mr_40, mr_41, mr_42, mg_43, mp_43, mr_44, mr_45, mg_46, mp_46, mr_47, mr_48, mg_49, mp_49, mg_50, mp_50, mg_51, mp_51, mr_52, mr_53, mr_54, mg_55, mp_55, mr_56, mr_57, mg_58, mp_58, mg_59, mp_59, mg_60, mp_60, mr_61, mg_62, mp_62, mr_63, mr_64, mr_65, mr_66, mr_67, mr_68, ma_1, ms_1, ma_2, ms_2, ma_3, ms_3, ma_4, ms_4, ma_5, ms_5, ma_6, ms_6, ma_7, ms_7, ma_8, ms_8, ma_9, ms_9, ma_10, ms_10, ma_11, ms_11, ma_12, ms_12, ma_13, ms_13, ma_14, ms_14, ma_15, ms_15, ma_16, ms_16, ma_17, ms_17, ma_18, ms_18, ma_19, ms_19, ma_20, ms_20, ma_21, ms_21, ma_22, ms_22, ma_23, ms_23, ma_24, ms_24, ma_25, ms_25, ma_26, ms_26, ma_27, ms_27, ma_28, ms_28, ma_29, ms_29, ma_30, ms_30, ma_31, ms_31, ma_32, ms_32, ma_33, ms_33, ma_34, ms_34, ma_35, ms_35, ma_36, ms_36, ma_37, ms_37, ma_38, ms_38, ma_39, ms_39, ma_40, ms_40, ma_41, ms_41, ma_42, ms_42, ma_43, ms_43, if_true, if_false, Option.bind_some, cb_e, lt_e, nI_1, hs_nar2, nh4, upd_at, vau_at, ma_30_18, ms_30_18, ma_31_18, ms_31_18, ma_28_0, ms_28_0, ma_28_1, ms_28_1, ma_28_2, ms_28_2, ma_28_3, ms_28_3, ma_28_4, ms_28_4, ma_42_0, ms_42_0, ma_42_1, ms_42_1, ma_42_2, ms_42_2, ma_36_0, ms_36_0, if_pos (i1.2 c0)]
  · obtain ⟨N, rfl⟩ : ∃ N : Nat, x = (N : Int) := ⟨x.toNat, by omega⟩
    have e3 : iI (N : Int) = nI N := rfl
    have hN : N < 2 ^ 31 := by have := hx.2; omega
    obtain ⟨Bc2, q1, q2, q3⟩ := c_measure_go (F := Fc) (A := Ac) (rc := rc) hG hC.2.1.2.2 hC.t7 (N := N) (by omega) hN 6 0 FU N 0 0 (0, 1) (by omega) (by decide) hN (by decide) (by omega) FrOK.zero Bc1 z2 z3
    have q1' : fX2_measure_b18 FU t (nI N) 191 0 0 (nI N) 0 (mkC Fc Ac Bc1 rc) = some (b2 (digs (tNb T) 6 N 0).isSome, mkC Fc Ac Bc2 rc) := q1
    have j1 : ¬ nI N < (1 : Int32) := fun q => c0 (i1.1 q)
    have hcr : CR Ac Ac Bc Bc2 := ⟨fun _ _ => rfl, fun d hd => by rw [q3 d (by omega), z4 d (by omega)]⟩
    by_cases c1 : N ≤ 666666
    · have j2 : nI N ≤ (666666 : Int32) := i2.2 (by omega)
      obtain ⟨g1, g2⟩ := m_takes_go (F := F) (B := B) hC.1.2.2.2.1 hC.1.2.2.1 hG.1 6 0 FU N 0 (by omega) (by decide) (by omega) (by decide) A hC.2.1.2.1.1
      cases hq : digs (tNb T) 6 N 0 with
      | none =>
        obtain ⟨A', y1, y2⟩ := g2 hq
        have y1' : fX12_takesOrder_b21 FU 0 (nI N) 0 0 (mkM F A B) = some (0, mkM F A' B) := y1
        refine ⟨-1, mkC Fc Ac Bc2 rc, mkM F A' B, ?_, ?_, rel_ratio hT hC ⟨fun _ _ => rfl, y2, fun _ _ => rfl⟩ hcr⟩
        · have nb : b2 false = 0 := by decide
          simp -implicitDefEqProofs (disch := first | assumption | omega | decide | exact And.intro (by omega) (by omega)) only [cck_0, cr0_0, cr0_1, cr0_2, cr0_3, cg0_4, cp0_4, cg0_5, cp0_5, cck_1, cg1_0, cp1_0, cr1_1, cr1_2, cr1_3, cg1_4, cp1_4, cg1_5, cp1_5, cr1_6, cr1_7, cck_2, cr2_0, cr2_1, cr2_2, cck_3, cr3_0, cr3_1, cg3_2, cp3_2, cg3_3, cp3_3, cg3_4, cp3_4, cg3_5, cp3_5, cg3_6, cp3_6, cg3_7, cp3_7, cg3_8, cp3_8, cck_4, cg4_0, cp4_0, cg4_1, cp4_1, cr4_2, cr4_3, cr4_4, cr4_5, cck_5, cg5_0, cp5_0, cr5_1, cr5_2, cr5_3, cck_6, cg6_0, cp6_0, cg6_1, cp6_1, cck_7, cg7_0, cp7_0, cg7_1, cp7_1, cr7_2, cr7_3, cr7_4, cr7_5, cr7_6, cr7_7, cr7_8, cck_8, cr8_0, cr8_1, cck_9, cr9_0, cr9_1, cr9_2, cr9_3, cg9_4, cp9_4, cck_10, cg10_0, cp10_0, cr10_1, cr10_2, cr10_3, cr10_4, cg10_5, cp10_5, cr10_6, cr10_7, cr10_8, cg10_9, cp10_9, cg10_10, cp10_10, cr10_11, cr10_12, cr10_13, cr10_14, cck_11, cr11_0, cg11_1, cp11_1, cr11_2, cr11_3, cr11_4, cr11_5, cr11_6, cr11_7, cr11_8, cr11_9, cr11_10, cr11_11, cr11_12, cr11_13, cr11_14, ca_30, cs_30, ca_31, cs_31, ca_32, cs_32, ca_33, cs_33, ca_34, cs_34, ca_35, cs_35, ca_36, cs_36, ca_37, cs_37, ca_38, cs_38, ca_39, cs_39, ca_40, cs_40, ca_41, cs_41, ca_42, cs_42, car_20, car_21, car_22, cq11_3, cq11_4, cq3_1, cq0_0, cq0_1, if_true, if_false, Option.bind_some, cb_e, lt_e, nI_1, hs_nar2, nh4, upd_at, vau_at, ca_42_0, cs_42_0, hr0, z1, e3, q1', hq, Option.isSome_none, if_pos nb]
        · simp -implicitDefEqProofs (disch := first | assumption | omega | decide | exact And.intro (by omega) (by omega)) only [mck, mg_0, mp_0, mr_1, mg_2, mp_2, mr_3, mg_4, mp_4, mr_5, mr_6, mr_7, mr_8, mr_9, mg_10, mp_10, mg_11, mp_11, mg_12, mp_12, mg_13, mp_13, mg_14, mp_14, mg_15, mp_15, mg_16, mp_16, mg_17, mp_17, mg_18, mp_18, mg_19, mp_19, mg_20, mp_20, mr_21, mr_22, mr_23, mr_24, mr_25, mr_26, mr_27, mr_28, mr_29, mr_30, mr_31, mr_32, mg_33, mp_33, mr_34, mr_35, mr_36, mr_37, mr_38, mg_39, mp_39, mr_40, mr_41, mr_42, mg_43, mp_43, mr_44, mr_45, mg_46, mp_46, mr_47, mr_48, mg_49, mp_49, mg_50, mp_50, mg_51, mp_51, mr_52, mr_53, mr_54, mg_55, mp_55, mr_56, mr_57, mg_58, mp_58, mg_59, mp_59, mg_60, mp_60, mr_61, mg_62, mp_62, mr_63, mr_64, mr_65, mr_66, mr_67, mr_68, ma_1, ms_1, ma_2, ms_2, ma_3, ms_3, ma_4, ms_4, ma_5, ms_5, ma_6, ms_6, ma_7, ms_7, ma_8, ms_8, ma_9, ms_9, ma_10, ms_10, ma_11, ms_11, ma_12, ms_12, ma_13, ms_13, ma_14, ms_14, ma_15, ms_15, ma_16, ms_16, ma_17, ms_17, ma_18, ms_18, ma_19, ms_19, ma_20, ms_20, ma_21, ms_21, ma_22, ms_22, ma_23, ms_23, ma_24, ms_24, ma_25, ms_25, ma_26, ms_26, ma_27, ms_27, ma_28, ms_28, ma_29, ms_29, ma_30, ms_30, ma_31, ms_31, ma_32, ms_32, ma_33, ms_33, ma_34, ms_34, ma_35, ms_35, ma_36, ms_36, ma_37, ms_37, ma_38, ms_38, ma_39, ms_39, ma_40, ms_40, ma_41, ms_41, ma_42, ms_42, ma_43, ms_43, if_true, if_false, Option.bind_some, cb_e, lt_e, nI_1, hs_nar2, nh4, upd_at, vau_at, ma_30_18, ms_30_18, ma_31_18, ms_31_18, ma_28_0, ms_28_0, ma_28_1, ms_28_1, ma_28_2, ms_28_2, ma_28_3, ms_28_3, ma_28_4, ms_28_4, ma_42_0, ms_42_0, ma_42_1, ms_42_1, ma_42_2, ms_42_2, ma_36_0, ms_36_0, e3, if_neg j1, if_pos j2, y1']
      | some L =>
        obtain ⟨l6, hd, A1, y1, y2, y3, y4⟩ := g1 L hq
        have l0 := digs_ne (by omega) hq
        rw [Nat.zero_add] at l6
        obtain ⟨A2, v1, v2, v3, v4⟩ := m_rev_takes (F := upd F 60 (nI L.length)) (B := B) (lo := 0) (hi := L.length - 1) (by omega) (A1 37) L.length 0 (L.length - 1) FU (by omega) (by omega) (by omega) (by omega) (by unfold FU; omega) A1 (fun j h1 h2 => by rw [if_neg (by omega)])
        have hO : OrdA A2 (tNb T) L.reverse := by
          refine ⟨by rw [List.length_reverse]; omega, fun j hj => ?_⟩
          rw [List.length_reverse] at hj
          rw [getD_rev hj]
          refine ⟨?_, getD_lt hd (by omega)⟩
          have e5 := y3 (L.length - 1 - j) (by omega)
          rw [Nat.zero_add] at e5
          rw [v2 j (by omega) (by omega), Nat.zero_add, e5]
        have mt2 : MText A2 lv T := hC.2.1.2.1.eq (fun c hc => by rw [v4 c (by unfold KM at hc; omega), y4 c (by unfold KM at hc; omega)])
        obtain ⟨B3, r1, r2, r3, r4⟩ := m_reaches (F := upd F 60 (nI L.length)) (A := A2) B hG mt2 hC.1.2.2.2.1 hC.1.2.2.1 hO (by rw [upd_at, List.length_reverse])
        rw [List.reverse_reverse] at r2 r3
        have y1' : fX12_takesOrder_b21 FU 0 (nI N) 0 0 (mkM F A B) = fX12_takesOrder_b83 0 (nI (0 + L.length)) (mkM F A1 B) := y1
        rw [Nat.zero_add] at y1'
        have es : nI L.length - 1 = nI (L.length - 1) := pk_sub (b := 1) (by omega)
        have v1' : fX12_takesOrder_b96 FU 0 0 (nI (L.length - 1)) (mkM (upd F 60 (nI L.length)) A1 B) = some (1, mkM (upd F 60 (nI L.length)) A2 B) := v1
        obtain ⟨q2a, q2b⟩ := q2 L hq
        refine ⟨if bl = 0 then jN (reaL T L 0 (0, 1)).1 else jN (reaL T L 0 (0, 1)).2, mkC Fc Ac Bc2 rc, mkM (upd F 60 (nI L.length)) A2 B3, ?_, ?_, rel_ratio hT hC ⟨fun k hk => upd_ne hk, fun c hc => by rw [v4 c hc, y4 c hc], r4⟩ hcr⟩
        · have nb : ¬ b2 true = 0 := by decide
          unfold fX6_part
          simp -implicitDefEqProofs (disch := first | assumption | omega | decide | exact And.intro (by omega) (by omega)) only [cck_0, cr0_0, cr0_1, cr0_2, cr0_3, cg0_4, cp0_4, cg0_5, cp0_5, cck_1, cg1_0, cp1_0, cr1_1, cr1_2, cr1_3, cg1_4, cp1_4, cg1_5, cp1_5, cr1_6, cr1_7, cck_2, cr2_0, cr2_1, cr2_2, cck_3, cr3_0, cr3_1, cg3_2, cp3_2, cg3_3, cp3_3, cg3_4, cp3_4, cg3_5, cp3_5, cg3_6, cp3_6, cg3_7, cp3_7, cg3_8, cp3_8, cck_4, cg4_0, cp4_0, cg4_1, cp4_1, cr4_2, cr4_3, cr4_4, cr4_5, cck_5, cg5_0, cp5_0, cr5_1, cr5_2, cr5_3, cck_6, cg6_0, cp6_0, cg6_1, cp6_1, cck_7, cg7_0, cp7_0, cg7_1, cp7_1, cr7_2, cr7_3, cr7_4, cr7_5, cr7_6, cr7_7, cr7_8, cck_8, cr8_0, cr8_1, cck_9, cr9_0, cr9_1, cr9_2, cr9_3, cg9_4, cp9_4, cck_10, cg10_0, cp10_0, cr10_1, cr10_2, cr10_3, cr10_4, cg10_5, cp10_5, cr10_6, cr10_7, cr10_8, cg10_9, cp10_9, cg10_10, cp10_10, cr10_11, cr10_12, cr10_13, cr10_14, cck_11, cr11_0, cg11_1, cp11_1, cr11_2, cr11_3, cr11_4, cr11_5, cr11_6, cr11_7, cr11_8, cr11_9, cr11_10, cr11_11, cr11_12, cr11_13, cr11_14, ca_30, cs_30, ca_31, cs_31, ca_32, cs_32, ca_33, cs_33, ca_34, cs_34, ca_35, cs_35, ca_36, cs_36, ca_37, cs_37, ca_38, cs_38, ca_39, cs_39, ca_40, cs_40, ca_41, cs_41, ca_42, cs_42, car_20, car_21, car_22, cq11_3, cq11_4, cq3_1, cq0_0, cq0_1, if_true, if_false, Option.bind_some, cb_e, lt_e, nI_1, hs_nar2, nh4, upd_at, vau_at, ca_42_0, cs_42_0, hr0, z1, e3, q1', hq, Option.isSome_some, if_neg nb, q2a, q2b]
          by_cases cb0 : bl = 0
          · rw [if_pos cb0, if_pos cb0]; rfl
          · rw [if_neg cb0, if_neg cb0]; rfl
        · have n1 : ¬ (1 : Int32) = 0 := by decide
          simp -implicitDefEqProofs (disch := first | assumption | omega | decide | exact And.intro (by omega) (by omega)) only [mck, mg_0, mp_0, mr_1, mg_2, mp_2, mr_3, mg_4, mp_4, mr_5, mr_6, mr_7, mr_8, mr_9, mg_10, mp_10, mg_11, mp_11, mg_12, mp_12, mg_13, mp_13, mg_14, mp_14, mg_15, mp_15, mg_16, mp_16, mg_17, mp_17, mg_18, mp_18, mg_19, mp_19, mg_20, mp_20, mr_21, mr_22, mr_23, mr_24, mr_25, mr_26, mr_27, mr_28, mr_29, mr_30, mr_31, mr_32, mg_33, mp_33, mr_34, mr_35, mr_36, mr_37, mr_38, mg_39, mp_39, mr_40, mr_41, mr_42, mg_43, mp_43, mr_44, mr_45, mg_46, mp_46, mr_47, mr_48, mg_49, mp_49, mg_50, mp_50, mg_51, mp_51, mr_52, mr_53, mr_54, mg_55, mp_55, mr_56, mr_57, mg_58, mp_58, mg_59, mp_59, mg_60, mp_60, mr_61, mg_62, mp_62, mr_63, mr_64, mr_65, mr_66, mr_67, mr_68, ma_1, ms_1, ma_2, ms_2, ma_3, ms_3, ma_4, ms_4, ma_5, ms_5, ma_6, ms_6, ma_7, ms_7, ma_8, ms_8, ma_9, ms_9, ma_10, ms_10, ma_11, ms_11, ma_12, ms_12, ma_13, ms_13, ma_14, ms_14, ma_15, ms_15, ma_16, ms_16, ma_17, ms_17, ma_18, ms_18, ma_19, ms_19, ma_20, ms_20, ma_21, ms_21, ma_22, ms_22, ma_23, ms_23, ma_24, ms_24, ma_25, ms_25, ma_26, ms_26, ma_27, ms_27, ma_28, ms_28, ma_29, ms_29, ma_30, ms_30, ma_31, ms_31, ma_32, ms_32, ma_33, ms_33, ma_34, ms_34, ma_35, ms_35, ma_36, ms_36, ma_37, ms_37, ma_38, ms_38, ma_39, ms_39, ma_40, ms_40, ma_41, ms_41, ma_42, ms_42, ma_43, ms_43, if_true, if_false, Option.bind_some, cb_e, lt_e, nI_1, hs_nar2, nh4, upd_at, vau_at, ma_30_18, ms_30_18, ma_31_18, ms_31_18, ma_28_0, ms_28_0, ma_28_1, ms_28_1, ma_28_2, ms_28_2, ma_28_3, ms_28_3, ma_28_4, ms_28_4, ma_42_0, ms_42_0, ma_42_1, ms_42_1, ma_42_2, ms_42_2, ma_36_0, ms_36_0, e3, if_neg j1, if_pos j2, y1']
          unfold fX12_takesOrder_b83
          simp -implicitDefEqProofs (disch := first | assumption | omega | decide | exact And.intro (by omega) (by omega)) only [mck, mg_0, mp_0, mr_1, mg_2, mp_2, mr_3, mg_4, mp_4, mr_5, mr_6, mr_7, mr_8, mr_9, mg_10, mp_10, mg_11, mp_11, mg_12, mp_12, mg_13, mp_13, mg_14, mp_14, mg_15, mp_15, mg_16, mp_16, mg_17, mp_17, mg_18, mp_18, mg_19, mp_19, mg_20, mp_20, mr_21, mr_22, mr_23, mr_24, mr_25, mr_26, mr_27, mr_28, mr_29, mr_30, mr_31, mr_32, mg_33, mp_33, mr_34, mr_35, mr_36, mr_37, mr_38, mg_39, mp_39, mr_40, mr_41, mr_42, mg_43, mp_43, mr_44, mr_45, mg_46, mp_46, mr_47, mr_48, mg_49, mp_49, mg_50, mp_50, mg_51, mp_51, mr_52, mr_53, mr_54, mg_55, mp_55, mr_56, mr_57, mg_58, mp_58, mg_59, mp_59, mg_60, mp_60, mr_61, mg_62, mp_62, mr_63, mr_64, mr_65, mr_66, mr_67, mr_68, ma_1, ms_1, ma_2, ms_2, ma_3, ms_3, ma_4, ms_4, ma_5, ms_5, ma_6, ms_6, ma_7, ms_7, ma_8, ms_8, ma_9, ms_9, ma_10, ms_10, ma_11, ms_11, ma_12, ms_12, ma_13, ms_13, ma_14, ms_14, ma_15, ms_15, ma_16, ms_16, ma_17, ms_17, ma_18, ms_18, ma_19, ms_19, ma_20, ms_20, ma_21, ms_21, ma_22, ms_22, ma_23, ms_23, ma_24, ms_24, ma_25, ms_25, ma_26, ms_26, ma_27, ms_27, ma_28, ms_28, ma_29, ms_29, ma_30, ms_30, ma_31, ms_31, ma_32, ms_32, ma_33, ms_33, ma_34, ms_34, ma_35, ms_35, ma_36, ms_36, ma_37, ms_37, ma_38, ms_38, ma_39, ms_39, ma_40, ms_40, ma_41, ms_41, ma_42, ms_42, ma_43, ms_43, if_true, if_false, Option.bind_some, cb_e, lt_e, nI_1, hs_nar2, nh4, upd_at, vau_at, ma_30_18, ms_30_18, ma_31_18, ms_31_18, ma_28_0, ms_28_0, ma_28_1, ms_28_1, ma_28_2, ms_28_2, ma_28_3, ms_28_3, ma_28_4, ms_28_4, ma_42_0, ms_42_0, ma_42_1, ms_42_1, ma_42_2, ms_42_2, ma_36_0, ms_36_0, es, v1', if_neg n1, r1, r2, r3, if_neg j1, if_pos j2]
          by_cases cb0 : bl = 0
          · rw [if_pos cb0, if_pos cb0]
          · rw [if_neg cb0, if_neg cb0]
    · have hq : digs (tNb T) 6 N 0 = none := by
        cases hq : digs (tNb T) 6 N 0 with
        | none => rfl
        | some L =>
          have := digs_le hG.1 6 N 0 L hq
          omega
      refine ⟨-1, mkC Fc Ac Bc2 rc, mkM F A B, ?_, ?_, rel_ratio hT hC MR.rf hcr⟩
      · have nb : b2 false = 0 := by decide
        simp -implicitDefEqProofs (disch := first | assumption | omega | decide | exact And.intro (by omega) (by omega)) only [cck_0, cr0_0, cr0_1, cr0_2, cr0_3, cg0_4, cp0_4, cg0_5, cp0_5, cck_1, cg1_0, cp1_0, cr1_1, cr1_2, cr1_3, cg1_4, cp1_4, cg1_5, cp1_5, cr1_6, cr1_7, cck_2, cr2_0, cr2_1, cr2_2, cck_3, cr3_0, cr3_1, cg3_2, cp3_2, cg3_3, cp3_3, cg3_4, cp3_4, cg3_5, cp3_5, cg3_6, cp3_6, cg3_7, cp3_7, cg3_8, cp3_8, cck_4, cg4_0, cp4_0, cg4_1, cp4_1, cr4_2, cr4_3, cr4_4, cr4_5, cck_5, cg5_0, cp5_0, cr5_1, cr5_2, cr5_3, cck_6, cg6_0, cp6_0, cg6_1, cp6_1, cck_7, cg7_0, cp7_0, cg7_1, cp7_1, cr7_2, cr7_3, cr7_4, cr7_5, cr7_6, cr7_7, cr7_8, cck_8, cr8_0, cr8_1, cck_9, cr9_0, cr9_1, cr9_2, cr9_3, cg9_4, cp9_4, cck_10, cg10_0, cp10_0, cr10_1, cr10_2, cr10_3, cr10_4, cg10_5, cp10_5, cr10_6, cr10_7, cr10_8, cg10_9, cp10_9, cg10_10, cp10_10, cr10_11, cr10_12, cr10_13, cr10_14, cck_11, cr11_0, cg11_1, cp11_1, cr11_2, cr11_3, cr11_4, cr11_5, cr11_6, cr11_7, cr11_8, cr11_9, cr11_10, cr11_11, cr11_12, cr11_13, cr11_14, ca_30, cs_30, ca_31, cs_31, ca_32, cs_32, ca_33, cs_33, ca_34, cs_34, ca_35, cs_35, ca_36, cs_36, ca_37, cs_37, ca_38, cs_38, ca_39, cs_39, ca_40, cs_40, ca_41, cs_41, ca_42, cs_42, car_20, car_21, car_22, cq11_3, cq11_4, cq3_1, cq0_0, cq0_1, if_true, if_false, Option.bind_some, cb_e, lt_e, nI_1, hs_nar2, nh4, upd_at, vau_at, ca_42_0, cs_42_0, hr0, z1, e3, q1', hq, Option.isSome_none, if_pos nb]
      · simp -implicitDefEqProofs (disch := first | assumption | omega | decide | exact And.intro (by omega) (by omega)) only [mck, mg_0, mp_0, mr_1, mg_2, mp_2, mr_3, mg_4, mp_4, mr_5, mr_6, mr_7, mr_8, mr_9, mg_10, mp_10, mg_11, mp_11, mg_12, mp_12, mg_13, mp_13, mg_14, mp_14, mg_15, mp_15, mg_16, mp_16, mg_17, mp_17, mg_18, mp_18, mg_19, mp_19, mg_20, mp_20, mr_21, mr_22, mr_23, mr_24, mr_25, mr_26, mr_27, mr_28, mr_29, mr_30, mr_31, mr_32, mg_33, mp_33, mr_34, mr_35, mr_36, mr_37, mr_38, mg_39, mp_39, mr_40, mr_41, mr_42, mg_43, mp_43, mr_44, mr_45, mg_46, mp_46, mr_47, mr_48, mg_49, mp_49, mg_50, mp_50, mg_51, mp_51, mr_52, mr_53, mr_54, mg_55, mp_55, mr_56, mr_57, mg_58, mp_58, mg_59, mp_59, mg_60, mp_60, mr_61, mg_62, mp_62, mr_63, mr_64, mr_65, mr_66, mr_67, mr_68, ma_1, ms_1, ma_2, ms_2, ma_3, ms_3, ma_4, ms_4, ma_5, ms_5, ma_6, ms_6, ma_7, ms_7, ma_8, ms_8, ma_9, ms_9, ma_10, ms_10, ma_11, ms_11, ma_12, ms_12, ma_13, ms_13, ma_14, ms_14, ma_15, ms_15, ma_16, ms_16, ma_17, ms_17, ma_18, ms_18, ma_19, ms_19, ma_20, ms_20, ma_21, ms_21, ma_22, ms_22, ma_23, ms_23, ma_24, ms_24, ma_25, ms_25, ma_26, ms_26, ma_27, ms_27, ma_28, ms_28, ma_29, ms_29, ma_30, ms_30, ma_31, ms_31, ma_32, ms_32, ma_33, ms_33, ma_34, ms_34, ma_35, ms_35, ma_36, ms_36, ma_37, ms_37, ma_38, ms_38, ma_39, ms_39, ma_40, ms_40, ma_41, ms_41, ma_42, ms_42, ma_43, ms_43, if_true, if_false, Option.bind_some, cb_e, lt_e, nI_1, hs_nar2, nh4, upd_at, vau_at, ma_30_18, ms_30_18, ma_31_18, ms_31_18, ma_28_0, ms_28_0, ma_28_1, ms_28_1, ma_28_2, ms_28_2, ma_28_3, ms_28_3, ma_28_4, ms_28_4, ma_42_0, ms_42_0, ma_42_1, ms_42_1, ma_42_2, ms_42_2, ma_36_0, ms_36_0, if_neg (fun q => c0 (i1.1 q)), if_neg (fun q => c1 (by have := i2.1 q; omega))]
