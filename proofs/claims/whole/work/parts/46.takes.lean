/-! ===== out, takings: the calls ===== -/
def MPart (A : Nat → Nat → Int32) (Q : AP) : Prop := ∀ j, j < Q.1 → A 31 j = nI (pB Q j) ∧ A 31 (6 + j) = iI (pP Q j) ∧ A 31 (12 + j) = pG Q j
theorem m_takes_b {F : Nat → Int32} {B : Nat → Nat → Int64} {nb : Nat} {P : AP} (hP : BigP nb P) {s : Nat} (hs : s < 64) : ∀ k i fuel Q, i + k = P.1 → k < fuel → Sub nb P i Q → ∀ (A : Nat → Nat → Int32), MPile A 30 0 P → MPart A Q → ∃ A', fX12_takesLevels_b8 fuel 0 (nI s) (nI Q.1) (nI i) (mkM F A B) = some ((), mkM F A' B) ∧ MPile A' 31 0 (keS P s k i Q) ∧ ∀ c, ¬ c = 31 → A' c = A c := by
  have h6 := hP.1
  intro k
  induction k with
  | zero =>
    intro i fuel Q h1 h2 hq A g1 g2
    obtain ⟨fuel, rfl⟩ : ∃ q, fuel = q + 1 := ⟨fuel - 1, by omega⟩
    have hsz := g1.1
    rw [Nat.zero_add] at hsz
    have q1 := hq.1
    rw [fX12_takesLevels_b8]
    simp -implicitDefEqProofs (disch := first | assumption | omega | decide | exact And.intro (by omega) (by omega)) only [mck, mg_0, mp_0, mr_1, mg_2, mp_2, mr_3, mg_4, mp_4, mr_5, mr_6, mr_7, mr_8, mr_9, mg_10, mp_10, mg_11, mp_11, mg_12, mp_12, mg_13, mp_13, mg_14, mp_14, mg_15, mp_15, mg_16, mp_16, mg_17, mp_17, mg_18, mp_18, mg_19, mp_19, mg_20, mp_20, mr_21, mr_22, mr_23, mr_24, mr_25, mr_26, mr_27, mr_28, mr_29, mr_30, mr_31, mr_32, mg_33, mp_33, mr_34, mr_35, mr_36, mr_37, mr_38, mg_39, mp_39, mr_40, mr_41, mr_42, mg_43, mp_43, mr_44, mr_45, mg_46, mp_46, mr_47, mr_48, mg_49, mp_49, mg_50, mp_50, mg_51, mp_51, mr_52, mr_53, mr_54, mg_55, mp_55, mr_56, mr_57, mg_58, mp_58, mg_59, mp_59, mg_60, mp_60, mr_61, mg_62, mp_62, mr_63, mr_64, mr_65, mr_66, mr_67, mr_68, ma_1, ms_1, ma_2, ms_2, ma_3, ms_3, ma_4, ms_4, ma_5, ms_5, ma_6, ms_6, ma_7, ms_7, ma_8, ms_8, ma_9, ms_9, ma_10, ms_10, ma_11, ms_11, ma_12, ms_12, ma_13, ms_13, ma_14, ms_14, ma_15, ms_15, ma_16, ms_16, ma_17, ms_17, ma_18, ms_18, ma_19, ms_19, ma_20, ms_20, ma_21, ms_21, ma_22, ms_22, ma_23, ms_23, ma_24, ms_24, ma_25, ms_25, ma_26, ms_26, ma_27, ms_27, ma_28, ms_28, ma_29, ms_29, ma_30, ms_30, ma_31, ms_31, ma_32, ms_32, ma_33, ms_33, ma_34, ms_34, ma_35, ms_35, ma_36, ms_36, ma_37, ms_37, ma_38, ms_38, ma_39, ms_39, ma_40, ms_40, ma_41, ms_41, ma_42, ms_42, ma_43, ms_43, if_true, if_false, Option.bind_some, cb_e, lt_e, nI_1, hs_nar2, nh4, upd_at, vau_at, ma_30_18, ms_30_18, ma_31_18, ms_31_18, ma_28_0, ms_28_0, ma_28_1, ms_28_1, ma_28_2, ms_28_2, ma_28_3, ms_28_3, ma_28_4, ms_28_4, ma_42_0, ms_42_0, ma_42_1, ms_42_1, ma_42_2, ms_42_2, ma_36_0, ms_36_0, hsz]
    rw [if_pos (nI_le (by omega) (by omega))]
    refine ⟨_, rfl, ⟨by rw [vau_at]; exact upd_at _ _ _, fun j hj => ?_⟩, fun c hc => vau_ne hc⟩
    have hj2 : j < Q.1 := hj
    simp only [Nat.zero_add]
    rw [vau_at, upd_ne (by omega), upd_ne (by omega), upd_ne (by omega)]
    exact g2 j hj2
  | succ k ih =>
    intro i fuel Q h1 h2 hq A g1 g2
    obtain ⟨fuel, rfl⟩ : ∃ q, fuel = q + 1 := ⟨fuel - 1, by omega⟩
    have hi : i < P.1 := by omega
    have hsz := g1.1
    rw [Nat.zero_add] at hsz
    have q1 := hq.1
    obtain ⟨e1, e2, e3⟩ := g1.2 i hi
    simp only [Nat.zero_add] at e1 e2 e3
    have hb := bit_m s hs i (by omega)
    have hg := hP.2.2.2.2 i hi
    rw [fX12_takesLevels_b8]
    simp -implicitDefEqProofs (disch := first | assumption | omega | decide | exact And.intro (by omega) (by omega)) only [mck, mg_0, mp_0, mr_1, mg_2, mp_2, mr_3, mg_4, mp_4, mr_5, mr_6, mr_7, mr_8, mr_9, mg_10, mp_10, mg_11, mp_11, mg_12, mp_12, mg_13, mp_13, mg_14, mp_14, mg_15, mp_15, mg_16, mp_16, mg_17, mp_17, mg_18, mp_18, mg_19, mp_19, mg_20, mp_20, mr_21, mr_22, mr_23, mr_24, mr_25, mr_26, mr_27, mr_28, mr_29, mr_30, mr_31, mr_32, mg_33, mp_33, mr_34, mr_35, mr_36, mr_37, mr_38, mg_39, mp_39, mr_40, mr_41, mr_42, mg_43, mp_43, mr_44, mr_45, mg_46, mp_46, mr_47, mr_48, mg_49, mp_49, mg_50, mp_50, mg_51, mp_51, mr_52, mr_53, mr_54, mg_55, mp_55, mr_56, mr_57, mg_58, mp_58, mg_59, mp_59, mg_60, mp_60, mr_61, mg_62, mp_62, mr_63, mr_64, mr_65, mr_66, mr_67, mr_68, ma_1, ms_1, ma_2, ms_2, ma_3, ms_3, ma_4, ms_4, ma_5, ms_5, ma_6, ms_6, ma_7, ms_7, ma_8, ms_8, ma_9, ms_9, ma_10, ms_10, ma_11, ms_11, ma_12, ms_12, ma_13, ms_13, ma_14, ms_14, ma_15, ms_15, ma_16, ms_16, ma_17, ms_17, ma_18, ms_18, ma_19, ms_19, ma_20, ms_20, ma_21, ms_21, ma_22, ms_22, ma_23, ms_23, ma_24, ms_24, ma_25, ms_25, ma_26, ms_26, ma_27, ms_27, ma_28, ms_28, ma_29, ms_29, ma_30, ms_30, ma_31, ms_31, ma_32, ms_32, ma_33, ms_33, ma_34, ms_34, ma_35, ms_35, ma_36, ms_36, ma_37, ms_37, ma_38, ms_38, ma_39, ms_39, ma_40, ms_40, ma_41, ms_41, ma_42, ms_42, ma_43, ms_43, if_true, if_false, Option.bind_some, cb_e, lt_e, nI_1, hs_nar2, nh4, upd_at, vau_at, ma_30_18, ms_30_18, ma_31_18, ms_31_18, ma_28_0, ms_28_0, ma_28_1, ms_28_1, ma_28_2, ms_28_2, ma_28_3, ms_28_3, ma_28_4, ms_28_4, ma_42_0, ms_42_0, ma_42_1, ms_42_1, ma_42_2, ms_42_2, ma_36_0, ms_36_0, hsz, hb]
    rw [if_neg (nI_ge (by omega) (by omega)), keS]
    by_cases c1 : s / 2 ^ i % 2 = 1
    · rw [if_neg (by rw [c1]; decide), if_pos c1]
      simp -implicitDefEqProofs (disch := first | assumption | omega | decide | exact And.intro (by omega) (by omega)) only [mck, mg_0, mp_0, mr_1, mg_2, mp_2, mr_3, mg_4, mp_4, mr_5, mr_6, mr_7, mr_8, mr_9, mg_10, mp_10, mg_11, mp_11, mg_12, mp_12, mg_13, mp_13, mg_14, mp_14, mg_15, mp_15, mg_16, mp_16, mg_17, mp_17, mg_18, mp_18, mg_19, mp_19, mg_20, mp_20, mr_21, mr_22, mr_23, mr_24, mr_25, mr_26, mr_27, mr_28, mr_29, mr_30, mr_31, mr_32, mg_33, mp_33, mr_34, mr_35, mr_36, mr_37, mr_38, mg_39, mp_39, mr_40, mr_41, mr_42, mg_43, mp_43, mr_44, mr_45, mg_46, mp_46, mr_47, mr_48, mg_49, mp_49, mg_50, mp_50, mg_51, mp_51, mr_52, mr_53, mr_54, mg_55, mp_55, mr_56, mr_57, mg_58, mp_58, mg_59, mp_59, mg_60, mp_60, mr_61, mg_62, mp_62, mr_63, mr_64, mr_65, mr_66, mr_67, mr_68, ma_1, ms_1, ma_2, ms_2, ma_3, ms_3, ma_4, ms_4, ma_5, ms_5, ma_6, ms_6, ma_7, ms_7, ma_8, ms_8, ma_9, ms_9, ma_10, ms_10, ma_11, ms_11, ma_12, ms_12, ma_13, ms_13, ma_14, ms_14, ma_15, ms_15, ma_16, ms_16, ma_17, ms_17, ma_18, ms_18, ma_19, ms_19, ma_20, ms_20, ma_21, ms_21, ma_22, ms_22, ma_23, ms_23, ma_24, ms_24, ma_25, ms_25, ma_26, ms_26, ma_27, ms_27, ma_28, ms_28, ma_29, ms_29, ma_30, ms_30, ma_31, ms_31, ma_32, ms_32, ma_33, ms_33, ma_34, ms_34, ma_35, ms_35, ma_36, ms_36, ma_37, ms_37, ma_38, ms_38, ma_39, ms_39, ma_40, ms_40, ma_41, ms_41, ma_42, ms_42, ma_43, ms_43, if_true, if_false, Option.bind_some, cb_e, lt_e, nI_1, hs_nar2, nh4, upd_at, vau_at, ma_30_18, ms_30_18, ma_31_18, ms_31_18, ma_28_0, ms_28_0, ma_28_1, ms_28_1, ma_28_2, ms_28_2, ma_28_3, ms_28_3, ma_28_4, ms_28_4, ma_42_0, ms_42_0, ma_42_1, ms_42_1, ma_42_2, ms_42_2, ma_36_0, ms_36_0, m_add6, m_add12, vau_ne, e1, e2, e3]
      generalize hA1 : va_up (va_up A 31 (upd (A 31) Q.1 (nI (P.2.1 i)))) 31 (upd (upd (A 31) Q.1 (nI (P.2.1 i))) (6 + Q.1) (iI (P.2.2.1 i))) = A1
      have hA1' : A1 = va_up A 31 (upd (upd (A 31) Q.1 (nI (P.2.1 i))) (6 + Q.1) (iI (P.2.2.1 i))) := by rw [← hA1, vau_vau]
      have fin : ∀ g : Int32, (g = 0 ∨ g = 1) → ∃ A', fX12_takesLevels_b96 (fX12_takesLevels_b8 fuel) 0 (nI s) (nI Q.1) (nI i) 31 (nI (12 + Q.1)) g (mkM F A1 B) = some ((), mkM F A' B) ∧ MPile A' 31 0 (keS P s k (i + 1) (apPut Q (pB P i) (pP P i) g)) ∧ ∀ c, ¬ c = 31 → A' c = A c := by
        intro g hg2
        unfold fX12_takesLevels_b96 fX12_takesLevels_b100
        simp -implicitDefEqProofs (disch := first | assumption | omega | decide | exact And.intro (by omega) (by omega)) only [mck, mg_0, mp_0, mr_1, mg_2, mp_2, mr_3, mg_4, mp_4, mr_5, mr_6, mr_7, mr_8, mr_9, mg_10, mp_10, mg_11, mp_11, mg_12, mp_12, mg_13, mp_13, mg_14, mp_14, mg_15, mp_15, mg_16, mp_16, mg_17, mp_17, mg_18, mp_18, mg_19, mp_19, mg_20, mp_20, mr_21, mr_22, mr_23, mr_24, mr_25, mr_26, mr_27, mr_28, mr_29, mr_30, mr_31, mr_32, mg_33, mp_33, mr_34, mr_35, mr_36, mr_37, mr_38, mg_39, mp_39, mr_40, mr_41, mr_42, mg_43, mp_43, mr_44, mr_45, mg_46, mp_46, mr_47, mr_48, mg_49, mp_49, mg_50, mp_50, mg_51, mp_51, mr_52, mr_53, mr_54, mg_55, mp_55, mr_56, mr_57, mg_58, mp_58, mg_59, mp_59, mg_60, mp_60, mr_61, mg_62, mp_62, mr_63, mr_64, mr_65, mr_66, mr_67, mr_68, ma_1, ms_1, ma_2, ms_2, ma_3, ms_3, ma_4, ms_4, ma_5, ms_5, ma_6, ms_6, ma_7, ms_7, ma_8, ms_8, ma_9, ms_9, ma_10, ms_10, ma_11, ms_11, ma_12, ms_12, ma_13, ms_13, ma_14, ms_14, ma_15, ms_15, ma_16, ms_16, ma_17, ms_17, ma_18, ms_18, ma_19, ms_19, ma_20, ms_20, ma_21, ms_21, ma_22, ms_22, ma_23, ms_23, ma_24, ms_24, ma_25, ms_25, ma_26, ms_26, ma_27, ms_27, ma_28, ms_28, ma_29, ms_29, ma_30, ms_30, ma_31, ms_31, ma_32, ms_32, ma_33, ms_33, ma_34, ms_34, ma_35, ms_35, ma_36, ms_36, ma_37, ms_37, ma_38, ms_38, ma_39, ms_39, ma_40, ms_40, ma_41, ms_41, ma_42, ms_42, ma_43, ms_43, if_true, if_false, Option.bind_some, cb_e, lt_e, nI_1, hs_nar2, nh4, upd_at, vau_at, ma_30_18, ms_30_18, ma_31_18, ms_31_18, ma_28_0, ms_28_0, ma_28_1, ms_28_1, ma_28_2, ms_28_2, ma_28_3, ms_28_3, ma_28_4, ms_28_4, ma_42_0, ms_42_0, ma_42_1, ms_42_1, ma_42_2, ms_42_2, ma_36_0, ms_36_0]
        have a31 : va_up A1 31 (upd (A1 31) (12 + Q.1) g) 31 = upd (upd (upd (A 31) Q.1 (nI (P.2.1 i))) (6 + Q.1) (iI (P.2.2.1 i))) (12 + Q.1) g := by rw [vau_at, hA1', vau_at]
        have aO : ∀ c, ¬ c = 31 → va_up A1 31 (upd (A1 31) (12 + Q.1) g) c = A c := fun c hc => by rw [vau_ne hc, hA1', vau_ne hc]
        obtain ⟨A', z1, z2, z3⟩ := ih (i + 1) fuel (apPut Q (pB P i) (pP P i) g) (by omega) (by omega) (hq.put hP hi hg2) (va_up A1 31 (upd (A1 31) (12 + Q.1) g)) (g1.eq (aO 30 (by decide))) (fun j hj => by
          have hj2 : j < Q.1 + 1 := hj
          rw [a31]
          show _ = nI (if j = Q.1 then pB P i else pB Q j) ∧ _ = iI (if j = Q.1 then pP P i else pP Q j) ∧ _ = (if j = Q.1 then g else pG Q j)
          by_cases cj : j = Q.1
          · rw [cj, upd_ne (by omega), upd_ne (by omega), upd_at, upd_ne (by omega), upd_at, upd_at, if_pos rfl, if_pos rfl, if_pos rfl]
            exact ⟨rfl, rfl, rfl⟩
          · rw [upd_ne (by omega), upd_ne (by omega), upd_ne (by omega), upd_ne (by omega), upd_ne (by omega), upd_ne (by omega), upd_ne (by omega), upd_ne (by omega), upd_ne (by omega), if_neg cj, if_neg cj, if_neg cj]
            exact g2 j (by omega))
        exact ⟨A', z1, z2, fun c hc => by rw [z3 c hc, aO c hc]⟩
      unfold fX12_takesLevels_b95
      by_cases c0 : i = 0
      · rw [if_pos (show nI i ≤ 0 by rw [c0]; decide), if_neg (by omega)]
        exact fin 0 (Or.inl rfl)
      · rw [if_neg (nI_nle (by omega) (by omega))]
        have c3 : nI i - 1 = nI (i - 1) := pk_sub (b := 1) (by omega)
        have bi1 := bit_m s hs (i - 1) (by omega)
        rw [c3, bi1]
        by_cases c4 : s / 2 ^ (i - 1) % 2 = 1
        · have a30 : A1 30 = A 30 := by rw [hA1', vau_ne (by decide)]
          rw [if_pos (show nI (s / 2 ^ (i - 1) % 2) = 1 by rw [c4]; rfl), if_pos ⟨by omega, c4⟩]
          exact fin _ hg
        · rw [if_neg (show ¬ nI (s / 2 ^ (i - 1) % 2) = 1 from fun q => c4 ((nI_eq (b := 1) (by omega) (by decide)).1 q)), if_neg (fun q => c4 q.2)]
          exact fin 0 (Or.inl rfl)
    · rw [if_pos (show nI (s / 2 ^ i % 2) = 0 by rw [show s / 2 ^ i % 2 = 0 by omega]; rfl), if_neg c1]
      unfold fX12_takesLevels_b100
      rw [nI_1]
      exact ih (i + 1) fuel Q (by omega) (by omega) hq.up A g1 g2
section ST6
variable {F F' : Nat → Int32} {A A' : Nat → Nat → Int32} {B B' : Nat → Nat → Int64} {Fc Fc' Ac Ac' : Nat → Nat → Int32} {Bc Bc' : Nat → Nat → Int64} {rc rc' : Nat → Nat} {t lv : Nat} {T : TD} {u w : Nat} {ps : Nat → AP} {n7 : Nat} {sp : Nat → AP}
/-- both look at the levels of s alone -/
theorem both_keep (hC : Core F A B Fc Ac Bc rc t lv T u w ps n7 sp) {s : Nat} (hs : s < 64) : ∃ F1 A1 B1 Fc1 Ac1 Ac2 rc2, (∃ A0, fX12_takesLevels 0 (nI s) (mkM F A B) = some ((), A0) ∧ fX12_tipsAt 0 A0 = some (rF (-2) (fal (st0 T (keep (ps u) s)) (keep (ps u) s).1 0), mkM F1 A1 B1)) ∧ fX5_keepOf 42 38 (nI s) (mkC Fc Ac Bc rc) = some ((), mkC Fc1 Ac1 Bc rc) ∧ fX0_allStand 46 t 42 (mkC Fc1 Ac1 Bc rc) = some (b2 (stAll T (keep (ps u) s)), mkC Fc1 Ac2 Bc rc2) ∧ MC F F1 A A1 B B1 ∧ CT t Fc Fc1 Ac Ac1 rc rc ∧ CT t Fc Fc1 Ac Ac2 rc rc2 ∧ (∀ c, ¬ (43 ≤ c ∧ c ≤ 45) → Ac1 c = Ac c) ∧ (∀ c, ¬ (43 ≤ c ∧ c ≤ 45) → ¬ c = 47 → ¬ c = 48 → ¬ c = t + 7 → Ac2 c = Ac c) := by
  have hP := hC.goodP.big
  have h6 := hP.1
  obtain ⟨F1, A1, ma, p1, p2, p3, p4, p5⟩ := core_copies hC
  obtain ⟨A2, z1, z2, z3⟩ := m_takes_b (F := F1) (B := B) hP hs (ps u).1 0 FU (0, (ps u).2) (by omega) (by unfold FU; omega) ⟨Nat.le_refl 0, fun j hj => absurd hj (Nat.not_lt_zero j), fun j l hj => absurd hj (Nat.not_lt_zero j), fun j hj => absurd hj (Nat.not_lt_zero j)⟩ A1 (hC.mp.eq (p4.2.1 30 (by decide) (by decide) (by decide) (by decide))) (fun j hj => absurd hj (Nat.not_lt_zero j))
  have hR2 : MRow F1 A2 lv T tr0 (keep (ps u) s) := p2.row z3 z2 (keep_big hP s)
  obtain ⟨F3, A3, B3, q1, q2, q3⟩ := m_tipsAt B hR2 p3
  rw [stands_eq] at q1
  obtain ⟨Fc1, Ac1, s1, s2, s3⟩ := c_keepOf (F := Fc) (A := Ac) Bc rc hC.crow.2.2.2.1 hP hC.2.1.1.1 hs
  have hR1 := hC.crow.row s3 s2 (keep_big hP s)
  obtain ⟨Ac2, r2, g1, g2⟩ := c_allStand Bc rc hR1
  have fr : ∀ c, ¬ (43 ≤ c ∧ c ≤ 45) → Ac1 c = Ac c := fun c hc => s3.2 c (by omega) (by omega) (by omega)
  refine ⟨F3, A3, B3, Fc1, Ac1, Ac2, r2, ⟨mkM F1 A2 B, ?_, q1⟩, s1, g1, p4.tr (MC.tr (⟨fun _ _ _ _ _ => rfl, fun c _ _ h3 _ => z3 c h3, fun _ _ _ => rfl⟩ : MC F1 F1 A1 A2 B B) q2.mc), s3.ct, s3.ct.tr g2.ct, fr, fun c h1 h2 h3 h4 => by rw [g2.1 c h2 h3 h4, fr c h1]⟩
  unfold fX12_takesLevels
  simp -implicitDefEqProofs (disch := first | assumption | omega | decide | exact And.intro (by omega) (by omega)) only [mck, mg_0, mp_0, mr_1, mg_2, mp_2, mr_3, mg_4, mp_4, mr_5, mr_6, mr_7, mr_8, mr_9, mg_10, mp_10, mg_11, mp_11, mg_12, mp_12, mg_13, mp_13, mg_14, mp_14, mg_15, mp_15, mg_16, mp_16, mg_17, mp_17, mg_18, mp_18, mg_19, mp_19, mg_20, mp_20, mr_21, mr_22, mr_23, mr_24, mr_25, mr_26, mr_27, mr_28, mr_29, mr_30, mr_31, mr_32, mg_33, mp_33, mr_34, mr_35, mr_36, mr_37, mr_38, mg_39, mp_39, mr_40, mr_41, mr_42, mg_43, mp_43, mr_44, mr_45, mg_46, mp_46, mr_47, mr_48, mg_49, mp_49, mg_50, mp_50, mg_51, mp_51, mr_52, mr_53, mr_54, mg_55, mp_55, mr_56, mr_57, mg_58, mp_58, mg_59, mp_59, mg_60, mp_60, mr_61, mg_62, mp_62, mr_63, mr_64, mr_65, mr_66, mr_67, mr_68, ma_1, ms_1, ma_2, ms_2, ma_3, ms_3, ma_4, ms_4, ma_5, ms_5, ma_6, ms_6, ma_7, ms_7, ma_8, ms_8, ma_9, ms_9, ma_10, ms_10, ma_11, ms_11, ma_12, ms_12, ma_13, ms_13, ma_14, ms_14, ma_15, ms_15, ma_16, ms_16, ma_17, ms_17, ma_18, ms_18, ma_19, ms_19, ma_20, ms_20, ma_21, ms_21, ma_22, ms_22, ma_23, ms_23, ma_24, ms_24, ma_25, ms_25, ma_26, ms_26, ma_27, ms_27, ma_28, ms_28, ma_29, ms_29, ma_30, ms_30, ma_31, ms_31, ma_32, ms_32, ma_33, ms_33, ma_34, ms_34, ma_35, ms_35, ma_36, ms_36, ma_37, ms_37, ma_38, ms_38, ma_39, ms_39, ma_40, ms_40, ma_41, ms_41, ma_42, ms_42, ma_43, ms_43, if_true, if_false, Option.bind_some, cb_e, lt_e, nI_1, hs_nar2, nh4, upd_at, vau_at, ma_30_18, ms_30_18, ma_31_18, ms_31_18, ma_28_0, ms_28_0, ma_28_1, ms_28_1, ma_28_2, ms_28_2, ma_28_3, ms_28_3, ma_28_4, ms_28_4, ma_42_0, ms_42_0, ma_42_1, ms_42_1, ma_42_2, ms_42_2, ma_36_0, ms_36_0, p1]
  exact z1
end ST6
theorem out_bits : ∀ n, n ≤ 6 → ∀ i, i < n → ((((1 : Int32) <<< (nI n &&& 31)) - 1) &&& (((1 : Int32) <<< (nI i &&& 31)) ^^^ (-1 : Int32))) = nI (2 ^ n - 1 - 2 ^ i) := by decide +kernel
theorem out_lt : ∀ n, n ≤ 6 → 2 ^ n - 1 < 64 := by decide +kernel
theorem ite_b2 (b : Bool) (σ : Sto) : (if b2 b = 0 then some ((0 : Int32), σ) else some (1, σ)) = some (b2 b, σ) := by
  cases b <;> rfl
theorem ag_out : Ag_I Rel fX11_out fX12_out := by
  intro σc σm a hR
  obtain ⟨F, A, B, Fc, Ac, Bc, rc, t, lv, T, u, w, ps, n7, sp, rfl, rfl, hT, hC⟩ := id hR
  obtain ⟨x, hx, rfl⟩ := iI_of a
  obtain ⟨b1, b2'⟩ := both_level hC hx
  have h6 := hC.goodP.1
  have hr0 := hC.1.2.1
  have hsz := hC.crow.2.2.2.1.1
  have ms := hC.mp.1
  rw [Nat.zero_add] at ms
  unfold fX11_out fX12_out
  rw [cck_11 rfl, mck, b1, b2']
  simp -implicitDefEqProofs only [cb, Option.bind_some]
  by_cases c : 0 ≤ x ∧ x < (ps u).1
  · obtain ⟨lev, hl, rfl⟩ := nat_of c
    have el : iI (lev : Int) = nI lev := rfl
    rw [decide_eq_true c, if_neg (show ¬ b2 true = 0 by decide), if_neg (show ¬ b2 true = 0 by decide), el]
    have hob := out_bits (ps u).1 h6 lev hl
    have hlt := out_lt (ps u).1 h6
    obtain ⟨F1, A1, B1, Fc1, Ac1, Ac2, rc2, ⟨A0, m1, m2⟩, c1, c2, d1, d2, d3, d4, d5⟩ := both_keep hC (s := 2 ^ (ps u).1 - 1 - 2 ^ lev) (Nat.lt_of_le_of_lt (Nat.sub_le _ _) hlt)
    have hb6 := (keep_big hC.goodP.big (2 ^ (ps u).1 - 1 - 2 ^ lev)).1
    have e := rF_neg (s := st0 T (keep (ps u) (2 ^ (ps u).1 - 1 - 2 ^ lev))) hb6
    refine ⟨b2 (stAll T (keep (ps u) (2 ^ (ps u).1 - 1 - 2 ^ lev))), mkC Fc1 Ac2 Bc rc2, mkM F1 A1 B1, ?_, ?_, rel_try hT hC d1.md d3⟩
    · simp -implicitDefEqProofs (disch := first | assumption | omega | decide | exact And.intro (by omega) (by omega)) only [cck_0, cr0_0, cr0_1, cr0_2, cr0_3, cg0_4, cp0_4, cg0_5, cp0_5, cck_1, cg1_0, cp1_0, cr1_1, cr1_2, cr1_3, cg1_4, cp1_4, cg1_5, cp1_5, cr1_6, cr1_7, cck_2, cr2_0, cr2_1, cr2_2, cck_3, cr3_0, cr3_1, cg3_2, cp3_2, cg3_3, cp3_3, cg3_4, cp3_4, cg3_5, cp3_5, cg3_6, cp3_6, cg3_7, cp3_7, cg3_8, cp3_8, cck_4, cg4_0, cp4_0, cg4_1, cp4_1, cr4_2, cr4_3, cr4_4, cr4_5, cck_5, cg5_0, cp5_0, cr5_1, cr5_2, cr5_3, cck_6, cg6_0, cp6_0, cg6_1, cp6_1, cck_7, cg7_0, cp7_0, cg7_1, cp7_1, cr7_2, cr7_3, cr7_4, cr7_5, cr7_6, cr7_7, cr7_8, cck_8, cr8_0, cr8_1, cck_9, cr9_0, cr9_1, cr9_2, cr9_3, cg9_4, cp9_4, cck_10, cg10_0, cp10_0, cr10_1, cr10_2, cr10_3, cr10_4, cg10_5, cp10_5, cr10_6, cr10_7, cr10_8, cg10_9, cp10_9, cg10_10, cp10_10, cr10_11, cr10_12, cr10_13, cr10_14, cck_11, cr11_0, cg11_1, cp11_1, cr11_2, cr11_3, cr11_4, cr11_5, cr11_6, cr11_7, cr11_8, cr11_9, cr11_10, cr11_11, cr11_12, cr11_13, cr11_14, ca_30, cs_30, ca_31, cs_31, ca_32, cs_32, ca_33, cs_33, ca_34, cs_34, ca_35, cs_35, ca_36, cs_36, ca_37, cs_37, ca_38, cs_38, ca_39, cs_39, ca_40, cs_40, ca_41, cs_41, ca_42, cs_42, car_20, car_21, car_22, cq11_3, cq11_4, cq3_1, cq0_0, cq0_1, if_true, if_false, Option.bind_some, cb_e, lt_e, nI_1, hs_nar2, nh4, upd_at, vau_at, ca_42_0, cs_42_0, hsz, hob, c1, hr0, c2, ite_b2]
    · simp -implicitDefEqProofs (disch := first | assumption | omega | decide | exact And.intro (by omega) (by omega)) only [mck, mg_0, mp_0, mr_1, mg_2, mp_2, mr_3, mg_4, mp_4, mr_5, mr_6, mr_7, mr_8, mr_9, mg_10, mp_10, mg_11, mp_11, mg_12, mp_12, mg_13, mp_13, mg_14, mp_14, mg_15, mp_15, mg_16, mp_16, mg_17, mp_17, mg_18, mp_18, mg_19, mp_19, mg_20, mp_20, mr_21, mr_22, mr_23, mr_24, mr_25, mr_26, mr_27, mr_28, mr_29, mr_30, mr_31, mr_32, mg_33, mp_33, mr_34, mr_35, mr_36, mr_37, mr_38, mg_39, mp_39, mr_40, mr_41, mr_42, mg_43, mp_43, mr_44, mr_45, mg_46, mp_46, mr_47, mr_48, mg_49, mp_49, mg_50, mp_50, mg_51, mp_51, mr_52, mr_53, mr_54, mg_55, mp_55, mr_56, mr_57, mg_58, mp_58, mg_59, mp_59, mg_60, mp_60, mr_61, mg_62, mp_62, mr_63, mr_64, mr_65, mr_66, mr_67, mr_68, ma_1, ms_1, ma_2, ms_2, ma_3, ms_3, ma_4, ms_4, ma_5, ms_5, ma_6, ms_6, ma_7, ms_7, ma_8, ms_8, ma_9, ms_9, ma_10, ms_10, ma_11, ms_11, ma_12, ms_12, ma_13, ms_13, ma_14, ms_14, ma_15, ms_15, ma_16, ms_16, ma_17, ms_17, ma_18, ms_18, ma_19, ms_19, ma_20, ms_20, ma_21, ms_21, ma_22, ms_22, ma_23, ms_23, ma_24, ms_24, ma_25, ms_25, ma_26, ms_26, ma_27, ms_27, ma_28, ms_28, ma_29, ms_29, ma_30, ms_30, ma_31, ms_31, ma_32, ms_32, ma_33, ms_33, ma_34, ms_34, ma_35, ms_35, ma_36, ms_36, ma_37, ms_37, ma_38, ms_38, ma_39, ms_39, ma_40, ms_40, ma_41, ms_41, ma_42, ms_42, ma_43, ms_43, if_true, if_false, Option.bind_some, cb_e, lt_e, nI_1, hs_nar2, nh4, upd_at, vau_at, ma_30_18, ms_30_18, ma_31_18, ms_31_18, ma_28_0, ms_28_0, ma_28_1, ms_28_1, ma_28_2, ms_28_2, ma_28_3, ms_28_3, ma_28_4, ms_28_4, ma_42_0, ms_42_0, ma_42_1, ms_42_1, ma_42_2, ms_42_2, ma_36_0, ms_36_0, ms, hob, m1, m2]
      unfold stAll
      cases hq : (fal (st0 T (keep (ps u) (2 ^ (ps u).1 - 1 - 2 ^ lev))) (keep (ps u) (2 ^ (ps u).1 - 1 - 2 ^ lev)).1 0).isNone with
      | true => rw [if_neg (by rw [e, hq]; decide)]; rfl
      | false => rw [if_pos (e.2 hq)]; rfl
  · rw [decide_eq_false c, if_pos (show b2 false = 0 by decide), if_pos (show b2 false = 0 by decide)]
    exact ⟨_, _, _, rfl, rfl, hR⟩
