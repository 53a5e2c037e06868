/-! ===== the model reads expressions: units, and the whole ===== -/
section MX80
variable {cb M : Nat} {K V PL : Nat → Nat} {B : Nat → Nat → Int64}
def SpE (M : Nat) (K : Nat → Nat) (n0 : Nat) (Q : Nat → Prop) (S : Nat → Nat → Rs) : Prop := ∀ n t, n0 ≤ n → n ≤ 6 → t ≤ M → (S n t).1 = 0 → ¬ Q (K (S n t).2.1)
theorem pL_end {x y n0 n : Nat} {U : Nat → Nat → Rs} {hh : Nat → Nat} {R : Nat → Prop} (hK : TkK M K V) (hx : ¬ x = 18) (hy : ¬ y = 18) (hn0 : n0 ≤ n) (hn : n ≤ 6) (hS : SpOK n0 M hh U) (hE : SpE M K n0 R U) : ∀ m t C, t ≤ M → 401 ≤ t + m → ¬ R (K t) → (pL K x y U m n t C).1 = 0 → ¬ (K (pL K x y U m n t C).2.1 = x ∨ K (pL K x y U m n t C).2.1 = y ∨ R (K (pL K x y U m n t C).2.1)) := by
  have hM := hK.1
  intro m
  induction m with
  | zero =>
    intro t C ht hm
    omega
  | succ m ih =>
    intro t C ht hm hR
    rw [pL]
    by_cases cs : K t = x ∨ K t = y
    · rw [if_pos cs]
      by_cases c4 : t < 400
      · rw [if_pos c4]
        have t1 := hK.on ht (by omega) c4
        obtain ⟨⟨s1, s2, s3⟩, s4⟩ := hS n (t + 1) hn0 hn t1
        by_cases cU : (U n (t + 1)).1 = 0
        · rw [if_pos cU]
          exact ih _ _ s2 (by omega) (hE n (t + 1) hn0 hn t1 cU)
        · rw [if_neg cU]
          exact fun q => absurd q cU
      · rw [if_neg c4]
        exact fun q => (by cases q)
    · rw [if_neg cs]
      exact fun _ q => q.elim (fun q => cs (Or.inl q)) (fun q => q.elim (fun q => cs (Or.inr q)) hR)
theorem pJ_end {x y n0 : Nat} {U : Nat → Nat → Rs} {hh : Nat → Nat} {R : Nat → Prop} (hK : TkK M K V) (hx : ¬ x = 18) (hy : ¬ y = 18) (hS : SpOK n0 M hh U) (hE : SpE M K n0 R U) : SpE M K n0 (fun k => k = x ∨ k = y ∨ R k) (pJ K x y U) := by
  intro n t hn0 hn ht
  obtain ⟨⟨s1, s2, s3⟩, s4⟩ := hS n t hn0 hn ht
  unfold pJ
  by_cases cU : (U n t).1 = 0
  · rw [if_pos cU]
    exact pL_end hK hx hy hn0 hn hS hE 401 _ _ s2 (by omega) (hE n t hn0 hn ht cU)
  · rw [if_neg cU]
    exact fun q => absurd q cU
theorem mkk_var : ∀ a, a < 62 → vk a = true → (11 ≤ a ∧ a ≤ 15 → mkk a = a + 20) ∧ (¬ (11 ≤ a ∧ a ≤ 15) → mkk a < 31) := by decide +kernel
theorem mkk_v31 : ∀ a, a < 16 → 11 ≤ a → nI (mkk a) - 31 = nI (a - 11) := by decide +kernel
theorem m_unit {n t c : Nat} {S : Nat → Nat → Rs} {F : Nat → Int32} {A : Nat → Nat → Int32} (hcb : cb ≤ 420) (hK : TkK M K V) (ht : t ≤ M) (hp : MPo F PL 0 t) (hk : MTk A M K V PL) (h39 : F 39 = nI c) (hc : c ≤ cb + t) (h40 : ¬ K t = 40) : ∃ F' A', fX12_unit 0 (mkM F A B) = some ((), mkM F' A' B) ∧ MPo F' PL (pU K V S n t).1 (pU K V S n t).2.1 ∧ MTr c (cb + 402) F F' A A' ∧ (F' 12 = F 12 ∧ F' 43 = F 43 ∧ A' 27 = A 27) ∧ ((pU K V S n t).1 = 0 → F' 39 = nI (c + 1) ∧ SegM A' c (pU K V S n t).2.2 ∧ (pU K V S n t).2.2.length = 1) := by
  have hM := hK.1
  have ht403 : t < 403 := by omega
  obtain ⟨f3, ⟨x, x1, x2, x3⟩, _, _⟩ := id hp
  rw [x3 rfl] at x2
  have f3' : F 13 = 0 := f3
  obtain ⟨k3, k4, k5⟩ := hk t ht
  obtain ⟨v1, v2⟩ := hK.2.1 t ht
  have vl := vk_lt v1
  have ml := mkk_lt (K t) vl
  obtain ⟨mv1, mv2⟩ := mkk_var (K t) vl v1
  have i2 : fX12_is 0 2 (mkM F A B) = some (b2 (decide (K t = 17)), mkM F A B) := m_is (B := B) hK ht hp hk (k := 17) rfl
  unfold fX12_unit fX12_unit_b88 pU
  by_cases c17 : K t = 17
  · rw [decide_eq_true c17] at i2
    rw [if_pos c17]
    obtain ⟨F1, A1, e1, e2, e3, e4, e5, e6, e7⟩ := m_emit (B := B) (F := F) (A := A) (lim := cb + 402) (by omega) h39 (by omega) 0 (nI (V t))
    obtain ⟨F2, g1, g2, g3, g4⟩ := m_goesOn (B := B) hK ht (hp.eq (e2 11 (by decide)) (e2 13 (by decide)) (e2 14 (by decide))) (hk.tr e7) (by omega)
    have tr2 : MTr c (cb + 402) F F2 A A1 := ⟨fun k q1 q2 q3 q4 q5 q6 => by rw [g4 k q1 q3 q4, e2 k q5], e7.2.1, e7.2.2.1, c + 1, by rw [g4 39 (by decide) (by decide) (by decide)]; exact e3, by omega, by omega⟩
    have k5' := k5 c17
    refine ⟨F2, A1, by simp -implicitDefEqProofs (disch := first | assumption | omega | decide | exact And.intro (by omega) (by omega)) only [mck, mg_0, mp_0, mr_1, mg_2, mp_2, mr_3, mg_4, mp_4, mr_5, mr_6, mr_7, mr_8, mr_9, mg_10, mp_10, mg_11, mp_11, mg_12, mp_12, mg_13, mp_13, mg_14, mp_14, mg_15, mp_15, mg_16, mp_16, mg_17, mp_17, mg_18, mp_18, mg_19, mp_19, mg_20, mp_20, mr_21, mr_22, mr_23, mr_24, mr_25, mr_26, mr_27, mr_28, mr_29, mr_30, mr_31, mr_32, mg_33, mp_33, mr_34, mr_35, mr_36, mr_37, mr_38, mg_39, mp_39, mr_40, mr_41, mr_42, mg_43, mp_43, mr_44, mr_45, mg_46, mp_46, mr_47, mr_48, mg_49, mp_49, mg_50, mp_50, mg_51, mp_51, mr_52, mr_53, mr_54, mg_55, mp_55, mr_56, mr_57, mg_58, mp_58, mg_59, mp_59, mg_60, mp_60, mr_61, mg_62, mp_62, mr_63, mr_64, mr_65, mr_66, mr_67, mr_68, ma_1, ms_1, ma_2, ms_2, ma_3, ms_3, ma_4, ms_4, ma_5, ms_5, ma_6, ms_6, ma_7, ms_7, ma_8, ms_8, ma_9, ms_9, ma_10, ms_10, ma_11, ms_11, ma_12, ms_12, ma_13, ms_13, ma_14, ms_14, ma_15, ms_15, ma_16, ms_16, ma_17, ms_17, ma_18, ms_18, ma_19, ms_19, ma_20, ms_20, ma_21, ms_21, ma_22, ms_22, ma_23, ms_23, ma_24, ms_24, ma_25, ms_25, ma_26, ms_26, ma_27, ms_27, ma_28, ms_28, ma_29, ms_29, ma_30, ms_30, ma_31, ms_31, ma_32, ms_32, ma_33, ms_33, ma_34, ms_34, ma_35, ms_35, ma_36, ms_36, ma_37, ms_37, ma_38, ms_38, ma_39, ms_39, ma_40, ms_40, ma_41, ms_41, ma_42, ms_42, ma_43, ms_43, if_true, if_false, Option.bind_some, cb_e, lt_e, nI_1, hs_nar2, nh4, upd_at, vau_at, ma_30_18, ms_30_18, ma_31_18, ms_31_18, ma_28_0, ms_28_0, ma_28_1, ms_28_1, ma_28_2, ms_28_2, ma_28_3, ms_28_3, ma_28_4, ms_28_4, ma_42_0, ms_42_0, ma_42_1, ms_42_1, ma_42_2, ms_42_2, ma_36_0, ms_36_0, i2, if_neg b2t, x2, k5', e1, g1], ?_, tr2, ⟨by rw [g4 12 (by decide) (by decide) (by decide), e2 12 (by decide)], by rw [g4 43 (by decide) (by decide) (by decide), e2 43 (by decide)], e6 27 (by decide) (by decide)⟩, fun _ => ⟨by rw [g4 39 (by decide) (by decide) (by decide)]; exact e3, ⟨⟨by rw [e4, upd_at]; rfl, by rw [e5, upd_at]⟩, trivial⟩, rfl⟩⟩
    unfold tkk
    rw [if_pos c17]
    by_cases c4 : t < 400
    · rw [if_pos c4]; exact g2 c4
    · rw [if_neg c4]; exact g3 c4
  rw [decide_eq_false c17] at i2
  rw [if_neg c17]
  by_cases cv : 11 ≤ K t ∧ K t ≤ 15
  · rw [if_pos cv]
    have mk := mv1 cv
    have n1 : ¬ nI (mkk (K t)) < (31 : Int32) := nI_nlt (a := mkk (K t)) (b := 31) (by omega) (by omega)
    have n2 : ¬ (35 : Int32) < nI (mkk (K t)) := nI_nlt (a := 35) (b := mkk (K t)) (by omega) (by decide)
    obtain ⟨F1, A1, e1, e2, e3, e4, e5, e6, e7⟩ := m_emit (B := B) (F := F) (A := A) (lim := cb + 402) (by omega) h39 (by omega) 1 (nI (mkk (K t)) - 31)
    obtain ⟨F2, g1, g2, g3, g4⟩ := m_goesOn (B := B) hK ht (hp.eq (e2 11 (by decide)) (e2 13 (by decide)) (e2 14 (by decide))) (hk.tr e7) (by omega)
    have tr2 : MTr c (cb + 402) F F2 A A1 := ⟨fun k q1 q2 q3 q4 q5 q6 => by rw [g4 k q1 q3 q4, e2 k q5], e7.2.1, e7.2.2.1, c + 1, by rw [g4 39 (by decide) (by decide) (by decide)]; exact e3, by omega, by omega⟩
    refine ⟨F2, A1, by simp -implicitDefEqProofs (disch := first | assumption | omega | decide | exact And.intro (by omega) (by omega)) only [mck, mg_0, mp_0, mr_1, mg_2, mp_2, mr_3, mg_4, mp_4, mr_5, mr_6, mr_7, mr_8, mr_9, mg_10, mp_10, mg_11, mp_11, mg_12, mp_12, mg_13, mp_13, mg_14, mp_14, mg_15, mp_15, mg_16, mp_16, mg_17, mp_17, mg_18, mp_18, mg_19, mp_19, mg_20, mp_20, mr_21, mr_22, mr_23, mr_24, mr_25, mr_26, mr_27, mr_28, mr_29, mr_30, mr_31, mr_32, mg_33, mp_33, mr_34, mr_35, mr_36, mr_37, mr_38, mg_39, mp_39, mr_40, mr_41, mr_42, mg_43, mp_43, mr_44, mr_45, mg_46, mp_46, mr_47, mr_48, mg_49, mp_49, mg_50, mp_50, mg_51, mp_51, mr_52, mr_53, mr_54, mg_55, mp_55, mr_56, mr_57, mg_58, mp_58, mg_59, mp_59, mg_60, mp_60, mr_61, mg_62, mp_62, mr_63, mr_64, mr_65, mr_66, mr_67, mr_68, ma_1, ms_1, ma_2, ms_2, ma_3, ms_3, ma_4, ms_4, ma_5, ms_5, ma_6, ms_6, ma_7, ms_7, ma_8, ms_8, ma_9, ms_9, ma_10, ms_10, ma_11, ms_11, ma_12, ms_12, ma_13, ms_13, ma_14, ms_14, ma_15, ms_15, ma_16, ms_16, ma_17, ms_17, ma_18, ms_18, ma_19, ms_19, ma_20, ms_20, ma_21, ms_21, ma_22, ms_22, ma_23, ms_23, ma_24, ms_24, ma_25, ms_25, ma_26, ms_26, ma_27, ms_27, ma_28, ms_28, ma_29, ms_29, ma_30, ms_30, ma_31, ms_31, ma_32, ms_32, ma_33, ms_33, ma_34, ms_34, ma_35, ms_35, ma_36, ms_36, ma_37, ms_37, ma_38, ms_38, ma_39, ms_39, ma_40, ms_40, ma_41, ms_41, ma_42, ms_42, ma_43, ms_43, if_true, if_false, Option.bind_some, cb_e, lt_e, nI_1, hs_nar2, nh4, upd_at, vau_at, ma_30_18, ms_30_18, ma_31_18, ms_31_18, ma_28_0, ms_28_0, ma_28_1, ms_28_1, ma_28_2, ms_28_2, ma_28_3, ms_28_3, ma_28_4, ms_28_4, ma_42_0, ms_42_0, ma_42_1, ms_42_1, ma_42_2, ms_42_2, ma_36_0, ms_36_0, i2, if_pos b2f, f3', x2, k3, if_neg n1, if_neg n2, e1, g1], ?_, tr2, ⟨by rw [g4 12 (by decide) (by decide) (by decide), e2 12 (by decide)], by rw [g4 43 (by decide) (by decide) (by decide), e2 43 (by decide)], e6 27 (by decide) (by decide)⟩, fun _ => ⟨by rw [g4 39 (by decide) (by decide) (by decide)]; exact e3, ⟨⟨by rw [e4, upd_at]; rfl, by rw [e5, upd_at]; exact mkk_v31 (K t) (by omega) cv.1⟩, trivial⟩, rfl⟩⟩
    unfold tkk
    rw [if_pos rfl]
    by_cases c4 : t < 400
    · rw [if_pos c4]; exact g2 c4
    · rw [if_neg c4]; exact g3 c4
  · rw [if_neg cv, if_neg h40]
    have mk := mv2 cv
    have n1 : nI (mkk (K t)) < (31 : Int32) := nI_lt (a := mkk (K t)) (b := 31) (by omega) (by decide)
    obtain ⟨F1, z1, z2, z3⟩ := m_fail (B := B) hK ht hp hk (n := 1) (by decide) (by decide)
    have z1' : fX12_fail 0 1 (mkM F A B) = some ((), mkM F1 A B) := z1
    exact ⟨F1, A, by simp -implicitDefEqProofs (disch := first | assumption | omega | decide | exact And.intro (by omega) (by omega)) only [mck, mg_0, mp_0, mr_1, mg_2, mp_2, mr_3, mg_4, mp_4, mr_5, mr_6, mr_7, mr_8, mr_9, mg_10, mp_10, mg_11, mp_11, mg_12, mp_12, mg_13, mp_13, mg_14, mp_14, mg_15, mp_15, mg_16, mp_16, mg_17, mp_17, mg_18, mp_18, mg_19, mp_19, mg_20, mp_20, mr_21, mr_22, mr_23, mr_24, mr_25, mr_26, mr_27, mr_28, mr_29, mr_30, mr_31, mr_32, mg_33, mp_33, mr_34, mr_35, mr_36, mr_37, mr_38, mg_39, mp_39, mr_40, mr_41, mr_42, mg_43, mp_43, mr_44, mr_45, mg_46, mp_46, mr_47, mr_48, mg_49, mp_49, mg_50, mp_50, mg_51, mp_51, mr_52, mr_53, mr_54, mg_55, mp_55, mr_56, mr_57, mg_58, mp_58, mg_59, mp_59, mg_60, mp_60, mr_61, mg_62, mp_62, mr_63, mr_64, mr_65, mr_66, mr_67, mr_68, ma_1, ms_1, ma_2, ms_2, ma_3, ms_3, ma_4, ms_4, ma_5, ms_5, ma_6, ms_6, ma_7, ms_7, ma_8, ms_8, ma_9, ms_9, ma_10, ms_10, ma_11, ms_11, ma_12, ms_12, ma_13, ms_13, ma_14, ms_14, ma_15, ms_15, ma_16, ms_16, ma_17, ms_17, ma_18, ms_18, ma_19, ms_19, ma_20, ms_20, ma_21, ms_21, ma_22, ms_22, ma_23, ms_23, ma_24, ms_24, ma_25, ms_25, ma_26, ms_26, ma_27, ms_27, ma_28, ms_28, ma_29, ms_29, ma_30, ms_30, ma_31, ms_31, ma_32, ms_32, ma_33, ms_33, ma_34, ms_34, ma_35, ms_35, ma_36, ms_36, ma_37, ms_37, ma_38, ms_38, ma_39, ms_39, ma_40, ms_40, ma_41, ms_41, ma_42, ms_42, ma_43, ms_43, if_true, if_false, Option.bind_some, cb_e, lt_e, nI_1, hs_nar2, nh4, upd_at, vau_at, ma_30_18, ms_30_18, ma_31_18, ms_31_18, ma_28_0, ms_28_0, ma_28_1, ms_28_1, ma_28_2, ms_28_2, ma_28_3, ms_28_3, ma_28_4, ms_28_4, ma_42_0, ms_42_0, ma_42_1, ms_42_1, ma_42_2, ms_42_2, ma_36_0, ms_36_0, i2, if_pos b2f, f3', x2, k3, if_pos n1, z1'], z2, ⟨fun k q1 q2 q3 q4 q5 q6 => z3 k q3 q4, fun _ _ _ _ => rfl, fun _ _ => ⟨rfl, rfl⟩, c, by rw [z3 39 (by decide) (by decide)]; exact h39, Nat.le_refl _, by omega⟩, ⟨z3 12 (by decide) (by decide), z3 43 (by decide) (by decide), rfl⟩, fun q => (by cases q)⟩
/-- a sign of opening is pushed -/
theorem m_46 {n t c f fu fa t' : Nat} {W : List Nat} {F F1 : Nat → Int32} {A : Nat → Nat → Int32} (hl : W.length < 64) (h12 : F 12 = nI n) (h43 : F 43 = nI W.length) (hg : fX12_goesOn 0 (mkM (upd F 12 (nI (n + 1))) A B) = some ((), mkM F1 A B)) (h1 : ∀ k, ¬ k = 11 → ¬ k = 13 → ¬ k = 14 → F1 k = upd F 12 (nI (n + 1)) k) : fX12_expression_b46 (fX12_expression_b12 f) (fX12_expression_b23 (fX12_expression_b12 f) fu) 0 0 (mkM F A B) = OW f fu (mkM (upd F1 43 (nI (W.length + 1))) (va_up A 27 (upd (A 27) W.length 6)) B) := by
  have y43 : F1 43 = nI W.length := by rw [h1 43 (by decide) (by decide) (by decide), upd_ne (by decide)]; exact h43
  unfold fX12_expression_b46 OW
  simp -implicitDefEqProofs (disch := first | assumption | omega | decide | exact And.intro (by omega) (by omega)) only [mck, mg_0, mp_0, mr_1, mg_2, mp_2, mr_3, mg_4, mp_4, mr_5, mr_6, mr_7, mr_8, mr_9, mg_10, mp_10, mg_11, mp_11, mg_12, mp_12, mg_13, mp_13, mg_14, mp_14, mg_15, mp_15, mg_16, mp_16, mg_17, mp_17, mg_18, mp_18, mg_19, mp_19, mg_20, mp_20, mr_21, mr_22, mr_23, mr_24, mr_25, mr_26, mr_27, mr_28, mr_29, mr_30, mr_31, mr_32, mg_33, mp_33, mr_34, mr_35, mr_36, mr_37, mr_38, mg_39, mp_39, mr_40, mr_41, mr_42, mg_43, mp_43, mr_44, mr_45, mg_46, mp_46, mr_47, mr_48, mg_49, mp_49, mg_50, mp_50, mg_51, mp_51, mr_52, mr_53, mr_54, mg_55, mp_55, mr_56, mr_57, mg_58, mp_58, mg_59, mp_59, mg_60, mp_60, mr_61, mg_62, mp_62, mr_63, mr_64, mr_65, mr_66, mr_67, mr_68, ma_1, ms_1, ma_2, ms_2, ma_3, ms_3, ma_4, ms_4, ma_5, ms_5, ma_6, ms_6, ma_7, ms_7, ma_8, ms_8, ma_9, ms_9, ma_10, ms_10, ma_11, ms_11, ma_12, ms_12, ma_13, ms_13, ma_14, ms_14, ma_15, ms_15, ma_16, ms_16, ma_17, ms_17, ma_18, ms_18, ma_19, ms_19, ma_20, ms_20, ma_21, ms_21, ma_22, ms_22, ma_23, ms_23, ma_24, ms_24, ma_25, ms_25, ma_26, ms_26, ma_27, ms_27, ma_28, ms_28, ma_29, ms_29, ma_30, ms_30, ma_31, ms_31, ma_32, ms_32, ma_33, ms_33, ma_34, ms_34, ma_35, ms_35, ma_36, ms_36, ma_37, ms_37, ma_38, ms_38, ma_39, ms_39, ma_40, ms_40, ma_41, ms_41, ma_42, ms_42, ma_43, ms_43, if_true, if_false, Option.bind_some, cb_e, lt_e, nI_1, hs_nar2, nh4, upd_at, vau_at, ma_30_18, ms_30_18, ma_31_18, ms_31_18, ma_28_0, ms_28_0, ma_28_1, ms_28_1, ma_28_2, ms_28_2, ma_28_3, ms_28_3, ma_28_4, ms_28_4, ma_42_0, ms_42_0, ma_42_1, ms_42_1, ma_42_2, ms_42_2, ma_36_0, ms_36_0, h12, hg, y43]
theorem m_unit_im {n0 : Nat} {S : Nat → Nat → Rs} {hh : Nat → Nat} {Q : Nat → Prop} (hcb : cb ≤ 420) (hK : TkK M K V) (hQ : ∀ k, k = 42 ∨ k = 43 ∨ k = 45 ∨ k = 47 → Q k) (hS : SpOK (n0 + 1) M hh S) (hE : SpE M K (n0 + 1) Q S) (hI : MIm cb M K V PL B 2 S (n0 + 1)) : MIm cb M K V PL B 0 (pU K V S) n0 := by
  have hM := hK.1
  intro n t c W F A f fu hn0 hn ht hs hw hW hf hfu
  obtain ⟨⟨hp, hk⟩, h12, h43, hWA, h39, hc⟩ := hs
  obtain ⟨fu, rfl⟩ : ∃ q, fu = q + 1 := ⟨fu - 1, by omega⟩
  have i6 : fX12_is 0 6 (mkM F A B) = some (b2 (decide (K t = 40)), mkM F A B) := m_is (B := B) hK ht hp hk (k := 40) rfl
  by_cases c40 : K t = 40
  · rw [decide_eq_true c40] at i6
    have hl64 : W.length < 64 := by omega
    have eU : pU K V S n t = if n = 6 then (2, t, []) else if t < 400 then (if (S (n + 1) (t + 1)).1 = 0 then ((tkk K 41 (S (n + 1) (t + 1)).2.1).1, (tkk K 41 (S (n + 1) (t + 1)).2.1).2, (S (n + 1) (t + 1)).2.2) else S (n + 1) (t + 1)) else (2, t, []) := by
      unfold pU
      rw [if_neg (by omega), if_neg (by omega), if_pos c40]
    rw [eU]
    by_cases c6 : n = 6
    · rw [if_pos c6]
      obtain ⟨F0, z1, z2, z3⟩ := m_fail (B := B) hK ht hp hk (n := 2) (by decide) (by decide)
      have z1' : fX12_fail 0 2 (mkM F A B) = some ((), mkM F0 A B) := z1
      obtain ⟨F1, g1, g2, g3⟩ := m_goesOnF (B := B) (A := A) (F := upd F0 12 (nI (n + 1))) (z2.eq (upd_ne (by decide)) (upd_ne (by decide)) (upd_ne (by decide))) (by decide)
      have e46 := m_46 (B := B) (F := F0) (F1 := F1) (A := A) (c := c) (fa := 2) (t := t) (t' := t) (f := f) (fu := fu) hl64 (by rw [z3 12 (by decide) (by decide)]; exact h12) (by rw [z3 43 (by decide) (by decide)]; exact h43) g1 (fun k q _ _ => g3 k q)
      have i12 : F 12 = (6 : Int32) := by rw [h12, c6]; rfl
      obtain ⟨fu, rfl⟩ : ∃ q, fu = q + 1 := ⟨fu - 1, by omega⟩
      refine ⟨fun _ => ⟨upd F1 43 (nI (W.length + 1)), va_up A 27 (upd (A 27) W.length 6), ?_, g2.eq (upd_ne (by decide)) (upd_ne (by decide)) (upd_ne (by decide)), ?_⟩, fun q => (by cases q)⟩
      · rw [← m_OWF (f := f) (fu := fu) (B := B) (A := va_up A 27 (upd (A 27) W.length 6)) (g2.eq (F' := upd F1 43 (nI (W.length + 1))) (upd_ne (by decide)) (upd_ne (by decide)) (upd_ne (by decide))) (by decide), ← e46]
        unfold OW
        rw [fX12_expression_b23]
        simp -implicitDefEqProofs (disch := first | assumption | omega | decide | exact And.intro (by omega) (by omega)) only [mck, mg_0, mp_0, mr_1, mg_2, mp_2, mr_3, mg_4, mp_4, mr_5, mr_6, mr_7, mr_8, mr_9, mg_10, mp_10, mg_11, mp_11, mg_12, mp_12, mg_13, mp_13, mg_14, mp_14, mg_15, mp_15, mg_16, mp_16, mg_17, mp_17, mg_18, mp_18, mg_19, mp_19, mg_20, mp_20, mr_21, mr_22, mr_23, mr_24, mr_25, mr_26, mr_27, mr_28, mr_29, mr_30, mr_31, mr_32, mg_33, mp_33, mr_34, mr_35, mr_36, mr_37, mr_38, mg_39, mp_39, mr_40, mr_41, mr_42, mg_43, mp_43, mr_44, mr_45, mg_46, mp_46, mr_47, mr_48, mg_49, mp_49, mg_50, mp_50, mg_51, mp_51, mr_52, mr_53, mr_54, mg_55, mp_55, mr_56, mr_57, mg_58, mp_58, mg_59, mp_59, mg_60, mp_60, mr_61, mg_62, mp_62, mr_63, mr_64, mr_65, mr_66, mr_67, mr_68, ma_1, ms_1, ma_2, ms_2, ma_3, ms_3, ma_4, ms_4, ma_5, ms_5, ma_6, ms_6, ma_7, ms_7, ma_8, ms_8, ma_9, ms_9, ma_10, ms_10, ma_11, ms_11, ma_12, ms_12, ma_13, ms_13, ma_14, ms_14, ma_15, ms_15, ma_16, ms_16, ma_17, ms_17, ma_18, ms_18, ma_19, ms_19, ma_20, ms_20, ma_21, ms_21, ma_22, ms_22, ma_23, ms_23, ma_24, ms_24, ma_25, ms_25, ma_26, ms_26, ma_27, ms_27, ma_28, ms_28, ma_29, ms_29, ma_30, ms_30, ma_31, ms_31, ma_32, ms_32, ma_33, ms_33, ma_34, ms_34, ma_35, ms_35, ma_36, ms_36, ma_37, ms_37, ma_38, ms_38, ma_39, ms_39, ma_40, ms_40, ma_41, ms_41, ma_42, ms_42, ma_43, ms_43, if_true, if_false, Option.bind_some, cb_e, lt_e, nI_1, hs_nar2, nh4, upd_at, vau_at, ma_30_18, ms_30_18, ma_31_18, ms_31_18, ma_28_0, ms_28_0, ma_28_1, ms_28_1, ma_28_2, ms_28_2, ma_28_3, ms_28_3, ma_28_4, ms_28_4, ma_42_0, ms_42_0, ma_42_1, ms_42_1, ma_42_2, ms_42_2, ma_36_0, ms_36_0, i6, if_neg b2t, i12, z1']
      · exact ⟨fun k q1 q2 q3 q4 q5 q6 => by rw [upd_ne q6, g3 k q1, upd_ne q2]; exact z3 k q3 q4, fun a q1 q2 q3 => vau_ne q3, fun j _ => by rw [vau_ne (by decide), vau_ne (by decide)]; exact ⟨rfl, rfl⟩, c, by rw [upd_ne (by decide), g3 39 (by decide), upd_ne (by decide), z3 39 (by decide) (by decide)]; exact h39, Nat.le_refl _, by omega⟩
    rw [if_neg c6]
    have i12 : ¬ F 12 = (6 : Int32) := by rw [h12]; exact fun q => c6 ((nI_eq (b := 6) (by omega) (by decide)).1 q)
    obtain ⟨F1, g1, g2, g3, g4⟩ := m_goesOn (B := B) (A := A) (F := upd F 12 (nI (n + 1))) hK ht (hp.eq (upd_ne (by decide)) (upd_ne (by decide)) (upd_ne (by decide))) hk (by omega)
    have e46 := m_46 (B := B) (F := F) (F1 := F1) (A := A) (c := c) (fa := 2) (t := t) (t' := t) (f := f) (fu := fu) hl64 h12 h43 g1 g4
    have step : OW f (fu + 1) (mkM F A B) = OW f fu (mkM (upd F1 43 (nI (W.length + 1))) (va_up A 27 (upd (A 27) W.length 6)) B) := by
      rw [← e46]
      unfold OW
      rw [fX12_expression_b23]
      simp -implicitDefEqProofs (disch := first | assumption | omega | decide | exact And.intro (by omega) (by omega)) only [mck, mg_0, mp_0, mr_1, mg_2, mp_2, mr_3, mg_4, mp_4, mr_5, mr_6, mr_7, mr_8, mr_9, mg_10, mp_10, mg_11, mp_11, mg_12, mp_12, mg_13, mp_13, mg_14, mp_14, mg_15, mp_15, mg_16, mp_16, mg_17, mp_17, mg_18, mp_18, mg_19, mp_19, mg_20, mp_20, mr_21, mr_22, mr_23, mr_24, mr_25, mr_26, mr_27, mr_28, mr_29, mr_30, mr_31, mr_32, mg_33, mp_33, mr_34, mr_35, mr_36, mr_37, mr_38, mg_39, mp_39, mr_40, mr_41, mr_42, mg_43, mp_43, mr_44, mr_45, mg_46, mp_46, mr_47, mr_48, mg_49, mp_49, mg_50, mp_50, mg_51, mp_51, mr_52, mr_53, mr_54, mg_55, mp_55, mr_56, mr_57, mg_58, mp_58, mg_59, mp_59, mg_60, mp_60, mr_61, mg_62, mp_62, mr_63, mr_64, mr_65, mr_66, mr_67, mr_68, ma_1, ms_1, ma_2, ms_2, ma_3, ms_3, ma_4, ms_4, ma_5, ms_5, ma_6, ms_6, ma_7, ms_7, ma_8, ms_8, ma_9, ms_9, ma_10, ms_10, ma_11, ms_11, ma_12, ms_12, ma_13, ms_13, ma_14, ms_14, ma_15, ms_15, ma_16, ms_16, ma_17, ms_17, ma_18, ms_18, ma_19, ms_19, ma_20, ms_20, ma_21, ms_21, ma_22, ms_22, ma_23, ms_23, ma_24, ms_24, ma_25, ms_25, ma_26, ms_26, ma_27, ms_27, ma_28, ms_28, ma_29, ms_29, ma_30, ms_30, ma_31, ms_31, ma_32, ms_32, ma_33, ms_33, ma_34, ms_34, ma_35, ms_35, ma_36, ms_36, ma_37, ms_37, ma_38, ms_38, ma_39, ms_39, ma_40, ms_40, ma_41, ms_41, ma_42, ms_42, ma_43, ms_43, if_true, if_false, Option.bind_some, cb_e, lt_e, nI_1, hs_nar2, nh4, upd_at, vau_at, ma_30_18, ms_30_18, ma_31_18, ms_31_18, ma_28_0, ms_28_0, ma_28_1, ms_28_1, ma_28_2, ms_28_2, ma_28_3, ms_28_3, ma_28_4, ms_28_4, ma_42_0, ms_42_0, ma_42_1, ms_42_1, ma_42_2, ms_42_2, ma_36_0, ms_36_0, i6, if_neg b2t, if_neg i12]
    have tr1 : MTr c (cb + 402) F (upd F1 43 (nI (W.length + 1))) A (va_up A 27 (upd (A 27) W.length 6)) := ⟨fun k q1 q2 q3 q4 q5 q6 => by rw [upd_ne q6, g4 k q1 q3 q4, upd_ne q2], fun a q1 q2 q3 => vau_ne q3, fun j _ => by rw [vau_ne (by decide), vau_ne (by decide)]; exact ⟨rfl, rfl⟩, c, by rw [upd_ne (by decide), g4 39 (by decide) (by decide) (by decide), upd_ne (by decide)]; exact h39, Nat.le_refl _, by omega⟩
    by_cases c4 : t < 400
    · rw [if_pos c4]
      have t1 := hK.on ht (by omega) c4
      have ms : MSt cb M K V PL (n + 1) (t + 1) c (6 :: W) (upd F1 43 (nI (W.length + 1))) (va_up A 27 (upd (A 27) W.length 6)) := ⟨⟨(g2 c4).eq (upd_ne (by decide)) (upd_ne (by decide)) (upd_ne (by decide)), hk.tr tr1⟩, by rw [upd_ne (by decide), g4 12 (by decide) (by decide) (by decide), upd_at], upd_at _ _ _, by rw [vau_at]; exact ⟨⟨upd_at _ _ _, by decide⟩, WA.up hWA (Nat.le_refl _)⟩, by rw [upd_ne (by decide), g4 39 (by decide) (by decide) (by decide), upd_ne (by decide)]; exact h39, by rw [List.length_cons]; omega⟩
      obtain ⟨u1, u2⟩ := hI (n + 1) (t + 1) c (6 :: W) _ _ f fu (by omega) (by omega) t1 ms (by rw [List.length_cons]; omega) (fun _ => Stop.cons rfl) (by omega) (by omega)
      obtain ⟨⟨s1, s2, s3⟩, s4⟩ := hS (n + 1) (t + 1) (by omega) (by omega) t1
      by_cases cE : (S (n + 1) (t + 1)).1 = 0
      · rw [if_pos cE]
        obtain ⟨F2, A2, f2, fu2, P2, L2, v1, v2, v3, v4, v5, v6, v7, v8⟩ := u2 cE
        have nq := hE (n + 1) (t + 1) (by omega) (by omega) t1 cE
        generalize hT : (S (n + 1) (t + 1)).2.1 = T at *
        have v400 : T ≤ 400 := by omega
        obtain ⟨fu2, rfl⟩ : ∃ q, fu2 = q + 1 := ⟨fu2 - 1, by omega⟩
        obtain ⟨⟨hp2, hk2⟩, p12, p43, pWA, p39, pc⟩ := id v2
        have tr2 : MTr c (cb + 402) F F2 A A2 := tr1.tr v6 (Nat.le_refl _)
        have pl := v5.1
        have lP : (P2 ++ 6 :: W).length = P2.length + (W.length + 1) := by rw [List.length_append, List.length_cons]
        by_cases c41 : K T = 41
        · obtain ⟨t3, t4⟩ := cT_app (x := 0) (W := 6 :: W) (Stop.cons rfl) (P := P2) v5.2
          obtain ⟨F3, A3, z1, z2, z3, z4, z5, z6, z7, z8⟩ := m_comes (B := B) (x := 0) (lim := cb + 402) (by decide) (by omega) p43 pWA p39 (by omega) (by omega)
          have z1' : fX12_comesOut 0 0 (mkM F2 A2 B) = some ((), mkM F3 A3 B) := z1
          rw [t4] at z3 z7
          rw [t3] at z4 z5
          rw [List.length_cons] at z3
          have i7 : fX12_is 0 7 (mkM F2 A2 B) = some (b2 (decide (K T = 41)), mkM F2 A2 B) := m_is (B := B) hK (t := T) s2 hp2 hk2 (k := 41) rfl
          rw [decide_eq_true c41] at i7
          have nn : ¬ nI (n + 1) ≤ 0 := nI_nle (by omega) (by omega)
          have q12 : F3 12 = nI (n + 1) := by rw [z2 12 (by decide) (by decide)]; exact p12
          have e1 : nI (W.length + 1) - 1 = nI W.length := nI_pred _
          have e2 : nI (n + 1) - 1 = nI n := nI_pred _
          have hp4 : MPo (upd (upd F3 43 (nI W.length)) 12 (nI n)) PL 0 T := (hp2.eq (z2 11 (by decide) (by decide)) (z2 13 (by decide) (by decide)) (z2 14 (by decide) (by decide))).eq (by rw [upd_ne (by decide), upd_ne (by decide)]) (by rw [upd_ne (by decide), upd_ne (by decide)]) (by rw [upd_ne (by decide), upd_ne (by decide)])
          have hk3 : MTk A3 M K V PL := hk2.tr z8
          obtain ⟨F4, y1, y2, y3, y4⟩ := m_goesOn (B := B) (A := A3) hK s2 hp4 hk3 (by omega)
          have step2 : AO f2 (fu2 + 1) (mkM F2 A2 B) = AO f2 fu2 (mkM F4 A3 B) := by
            unfold AO
            rw [fX12_expression_b96]
            simp -implicitDefEqProofs (disch := first | assumption | omega | decide | exact And.intro (by omega) (by omega)) only [mck, mg_0, mp_0, mr_1, mg_2, mp_2, mr_3, mg_4, mp_4, mr_5, mr_6, mr_7, mr_8, mr_9, mg_10, mp_10, mg_11, mp_11, mg_12, mp_12, mg_13, mp_13, mg_14, mp_14, mg_15, mp_15, mg_16, mp_16, mg_17, mp_17, mg_18, mp_18, mg_19, mp_19, mg_20, mp_20, mr_21, mr_22, mr_23, mr_24, mr_25, mr_26, mr_27, mr_28, mr_29, mr_30, mr_31, mr_32, mg_33, mp_33, mr_34, mr_35, mr_36, mr_37, mr_38, mg_39, mp_39, mr_40, mr_41, mr_42, mg_43, mp_43, mr_44, mr_45, mg_46, mp_46, mr_47, mr_48, mg_49, mp_49, mg_50, mp_50, mg_51, mp_51, mr_52, mr_53, mr_54, mg_55, mp_55, mr_56, mr_57, mg_58, mp_58, mg_59, mp_59, mg_60, mp_60, mr_61, mg_62, mp_62, mr_63, mr_64, mr_65, mr_66, mr_67, mr_68, ma_1, ms_1, ma_2, ms_2, ma_3, ms_3, ma_4, ms_4, ma_5, ms_5, ma_6, ms_6, ma_7, ms_7, ma_8, ms_8, ma_9, ms_9, ma_10, ms_10, ma_11, ms_11, ma_12, ms_12, ma_13, ms_13, ma_14, ms_14, ma_15, ms_15, ma_16, ms_16, ma_17, ms_17, ma_18, ms_18, ma_19, ms_19, ma_20, ms_20, ma_21, ms_21, ma_22, ms_22, ma_23, ms_23, ma_24, ms_24, ma_25, ms_25, ma_26, ms_26, ma_27, ms_27, ma_28, ms_28, ma_29, ms_29, ma_30, ms_30, ma_31, ms_31, ma_32, ms_32, ma_33, ms_33, ma_34, ms_34, ma_35, ms_35, ma_36, ms_36, ma_37, ms_37, ma_38, ms_38, ma_39, ms_39, ma_40, ms_40, ma_41, ms_41, ma_42, ms_42, ma_43, ms_43, if_true, if_false, Option.bind_some, cb_e, lt_e, nI_1, hs_nar2, nh4, upd_at, vau_at, ma_30_18, ms_30_18, ma_31_18, ms_31_18, ma_28_0, ms_28_0, ma_28_1, ms_28_1, ma_28_2, ms_28_2, ma_28_3, ms_28_3, ma_28_4, ms_28_4, ma_42_0, ms_42_0, ma_42_1, ms_42_1, ma_42_2, ms_42_2, ma_36_0, ms_36_0, i7, if_neg b2t, p12, if_neg nn, z1', z3, e1, upd_ne, q12, e2, y1]
          have tr3 : MTr c (cb + 402) F F3 A A3 := tr2.tr z8 (by omega)
          have q39 : F4 39 = nI (c + L2.length + P2.length) := by rw [y4 39 (by decide) (by decide) (by decide), upd_ne (by decide), upd_ne (by decide)]; exact z4
          have q43 : F4 43 = nI W.length := by rw [y4 43 (by decide) (by decide) (by decide), upd_ne (by decide), upd_at]
          have q12b : F4 12 = nI n := by rw [y4 12 (by decide) (by decide) (by decide), upd_at]
          have tr4 : MTr c (cb + 402) F F4 A A3 := ⟨fun k q1 q2 q3 q4 q5 q6 => by rw [y4 k q1 q3 q4, upd_ne q2, upd_ne q6]; exact tr3.1 k q1 q2 q3 q4 q5 q6, tr3.2.1, tr3.2.2.1, c + L2.length + P2.length, q39, by omega, by omega⟩
          have sL : SegM A3 c ((S (n + 1) (t + 1)).2.2) := by
            rw [v4]
            exact SegM.app _ (v3.eq (fun j _ hj => z8.2.2.1 j (Or.inl hj))) z5
          have lL : (S (n + 1) (t + 1)).2.2.length = L2.length + P2.length := by rw [v4, List.length_append, List.length_map]
          by_cases T4 : T < 400
          · have tk1 : tkk K 41 T = (0, T + 1) := by unfold tkk; rw [if_pos c41, if_pos T4]
            rw [tk1]
            refine ⟨fun q => absurd rfl q, fun _ => ⟨F4, A3, f2, fu2, [], (S (n + 1) (t + 1)).2.2, by rw [step, v1, step2], ⟨⟨y2 T4, hk3⟩, q12b, q43, z7.2, by rw [lL, ← Nat.add_assoc]; exact q39, by rw [lL]; show c + (L2.length + P2.length) + W.length ≤ cb + (T + 1); omega⟩, sL, by rw [List.map_nil, List.append_nil], ⟨Nat.le_refl _, fun k hk => absurd hk List.not_mem_nil⟩, tr4, by show 402 ≤ f2 + (T + 1); omega, by show 402 ≤ fu2 + (T + 1); omega⟩⟩
          · have tk1 : tkk K 41 T = (2, T) := by unfold tkk; rw [if_pos c41, if_neg T4]
            rw [tk1]
            obtain ⟨fu2, rfl⟩ : ∃ q, fu2 = q + 1 := ⟨fu2 - 1, by omega⟩
            obtain ⟨F5, A5, w1, w2, w3⟩ := m_191F (B := B) hcb (y3 T4) (by decide) q12b (by omega) q43 z7.2 q39 (by omega) (by omega)
            refine ⟨fun _ => ⟨F5, A5, ?_, w2, tr4.tr w3 (by omega)⟩, fun q => (by cases q)⟩
            rw [step, v1, step2]
            unfold AO
            rw [m_96F (y3 T4) (by decide), w1]
        · have tk1 : tkk K 41 T = (1, T) := by unfold tkk; rw [if_neg c41]
          rw [tk1]
          obtain ⟨F3, z1, z2, z3⟩ := m_fail (B := B) hK s2 hp2 hk2 (n := 1) (by decide) (by decide)
          have z1' : fX12_fail 0 1 (mkM F2 A2 B) = some ((), mkM F3 A2 B) := z1
          obtain ⟨F5, A5, w1, w2, w3⟩ := m_191F (B := B) (n := 0) hcb (F := upd F3 12 0) (A := A2) (z2.eq (upd_ne (by decide)) (upd_ne (by decide)) (upd_ne (by decide))) (by decide) (upd_at _ _ _) (by decide) (by rw [upd_ne (by decide), z3 43 (by decide) (by decide)]; exact p43) pWA (by rw [upd_ne (by decide), z3 39 (by decide) (by decide)]; exact p39) (by omega) (by omega)
          obtain ⟨F6, A6, z61, z62, z63, z64, z65, z66, z67, z68⟩ := m_comes (B := B) (x := 0) (F := F3) (A := A2) (lim := cb + 402) (by decide) (by omega) (by rw [z3 43 (by decide) (by decide)]; exact p43) pWA (by rw [z3 39 (by decide) (by decide)]; exact p39) (by omega) (by omega)
          have z61' : fX12_comesOut 0 0 (mkM F3 A2 B) = some ((), mkM F6 A6 B) := z61
          have nn : ¬ nI (n + 1) ≤ 0 := nI_nle (by omega) (by omega)
          have tr3 : MTr c (cb + 402) F F3 A A2 := ⟨fun k q1 q2 q3 q4 q5 q6 => by rw [z3 k q3 q4]; exact tr2.1 k q1 q2 q3 q4 q5 q6, tr2.2.1, tr2.2.2.1, c + L2.length, by rw [z3 39 (by decide) (by decide)]; exact p39, by omega, by omega⟩
          refine ⟨fun _ => ⟨F6, A6, ?_, z2.eq (z62 11 (by decide) (by decide)) (z62 13 (by decide) (by decide)) (z62 14 (by decide) (by decide)), tr3.tr z68 (by omega)⟩, fun q => (by cases q)⟩
          rw [step, v1]
          unfold AO
          rw [m_96 hK s2 hp2 hk2 p12 (by omega) (fun q => c41 q.1), m_145 hK s2 hp2 hk2, if_neg (fun q => nq (hQ _ (by omega))), if_neg (fun q => nq (hQ _ (by omega)))]
          unfold fX12_expression_b191 fX12_expression_b204
          simp -implicitDefEqProofs (disch := first | assumption | omega | decide | exact And.intro (by omega) (by omega)) only [mck, mg_0, mp_0, mr_1, mg_2, mp_2, mr_3, mg_4, mp_4, mr_5, mr_6, mr_7, mr_8, mr_9, mg_10, mp_10, mg_11, mp_11, mg_12, mp_12, mg_13, mp_13, mg_14, mp_14, mg_15, mp_15, mg_16, mp_16, mg_17, mp_17, mg_18, mp_18, mg_19, mp_19, mg_20, mp_20, mr_21, mr_22, mr_23, mr_24, mr_25, mr_26, mr_27, mr_28, mr_29, mr_30, mr_31, mr_32, mg_33, mp_33, mr_34, mr_35, mr_36, mr_37, mr_38, mg_39, mp_39, mr_40, mr_41, mr_42, mg_43, mp_43, mr_44, mr_45, mg_46, mp_46, mr_47, mr_48, mg_49, mp_49, mg_50, mp_50, mg_51, mp_51, mr_52, mr_53, mr_54, mg_55, mp_55, mr_56, mr_57, mg_58, mp_58, mg_59, mp_59, mg_60, mp_60, mr_61, mg_62, mp_62, mr_63, mr_64, mr_65, mr_66, mr_67, mr_68, ma_1, ms_1, ma_2, ms_2, ma_3, ms_3, ma_4, ms_4, ma_5, ms_5, ma_6, ms_6, ma_7, ms_7, ma_8, ms_8, ma_9, ms_9, ma_10, ms_10, ma_11, ms_11, ma_12, ms_12, ma_13, ms_13, ma_14, ms_14, ma_15, ms_15, ma_16, ms_16, ma_17, ms_17, ma_18, ms_18, ma_19, ms_19, ma_20, ms_20, ma_21, ms_21, ma_22, ms_22, ma_23, ms_23, ma_24, ms_24, ma_25, ms_25, ma_26, ms_26, ma_27, ms_27, ma_28, ms_28, ma_29, ms_29, ma_30, ms_30, ma_31, ms_31, ma_32, ms_32, ma_33, ms_33, ma_34, ms_34, ma_35, ms_35, ma_36, ms_36, ma_37, ms_37, ma_38, ms_38, ma_39, ms_39, ma_40, ms_40, ma_41, ms_41, ma_42, ms_42, ma_43, ms_43, if_true, if_false, Option.bind_some, cb_e, lt_e, nI_1, hs_nar2, nh4, upd_at, vau_at, ma_30_18, ms_30_18, ma_31_18, ms_31_18, ma_28_0, ms_28_0, ma_28_1, ms_28_1, ma_28_2, ms_28_2, ma_28_3, ms_28_3, ma_28_4, ms_28_4, ma_42_0, ms_42_0, ma_42_1, ms_42_1, ma_42_2, ms_42_2, ma_36_0, ms_36_0, p12, if_neg nn, z1', z61']
      · rw [if_neg cE]
        refine ⟨fun _ => ?_, fun q => absurd q cE⟩
        obtain ⟨F2, A2, v1, v2, v3⟩ := u1 cE
        exact ⟨F2, A2, by rw [step, v1], v2, tr1.tr v3 (Nat.le_refl _)⟩
    · rw [if_neg c4]
      obtain ⟨fu, rfl⟩ : ∃ q, fu = q + 1 := ⟨fu - 1, by omega⟩
      refine ⟨fun _ => ⟨_, _, ?_, (g3 c4).eq (upd_ne (by decide)) (upd_ne (by decide)) (upd_ne (by decide)), tr1⟩, fun q => (by cases q)⟩
      rw [step]
      exact m_OWF ((g3 c4).eq (upd_ne (by decide)) (upd_ne (by decide)) (upd_ne (by decide))) (by decide)
  · rw [decide_eq_false c40] at i6
    obtain ⟨F1, A1, a1, a2, a3, ⟨a4, a5, a6⟩, a7⟩ := m_unit (B := B) (n := n) (S := S) hcb hK ht hp hk h39 (by omega) c40
    have f3 := a2.1
    have b84 : OW f (fu + 1) (mkM F A B) = if (pU K V S n t).1 = 0 then AO f FU (mkM F1 A1 B) else some ((), mkM F1 A1 B) := by
      unfold OW AO
      rw [fX12_expression_b23]
      unfold fX12_expression_b84
      by_cases cu : (pU K V S n t).1 = 0
      · rw [if_pos cu]
        rw [cu] at f3
        have f3' : F1 13 = 0 := f3
        have z0 : (0 : Int32) ≤ 0 := by decide
        simp -implicitDefEqProofs (disch := first | assumption | omega | decide | exact And.intro (by omega) (by omega)) only [mck, mg_0, mp_0, mr_1, mg_2, mp_2, mr_3, mg_4, mp_4, mr_5, mr_6, mr_7, mr_8, mr_9, mg_10, mp_10, mg_11, mp_11, mg_12, mp_12, mg_13, mp_13, mg_14, mp_14, mg_15, mp_15, mg_16, mp_16, mg_17, mp_17, mg_18, mp_18, mg_19, mp_19, mg_20, mp_20, mr_21, mr_22, mr_23, mr_24, mr_25, mr_26, mr_27, mr_28, mr_29, mr_30, mr_31, mr_32, mg_33, mp_33, mr_34, mr_35, mr_36, mr_37, mr_38, mg_39, mp_39, mr_40, mr_41, mr_42, mg_43, mp_43, mr_44, mr_45, mg_46, mp_46, mr_47, mr_48, mg_49, mp_49, mg_50, mp_50, mg_51, mp_51, mr_52, mr_53, mr_54, mg_55, mp_55, mr_56, mr_57, mg_58, mp_58, mg_59, mp_59, mg_60, mp_60, mr_61, mg_62, mp_62, mr_63, mr_64, mr_65, mr_66, mr_67, mr_68, ma_1, ms_1, ma_2, ms_2, ma_3, ms_3, ma_4, ms_4, ma_5, ms_5, ma_6, ms_6, ma_7, ms_7, ma_8, ms_8, ma_9, ms_9, ma_10, ms_10, ma_11, ms_11, ma_12, ms_12, ma_13, ms_13, ma_14, ms_14, ma_15, ms_15, ma_16, ms_16, ma_17, ms_17, ma_18, ms_18, ma_19, ms_19, ma_20, ms_20, ma_21, ms_21, ma_22, ms_22, ma_23, ms_23, ma_24, ms_24, ma_25, ms_25, ma_26, ms_26, ma_27, ms_27, ma_28, ms_28, ma_29, ms_29, ma_30, ms_30, ma_31, ms_31, ma_32, ms_32, ma_33, ms_33, ma_34, ms_34, ma_35, ms_35, ma_36, ms_36, ma_37, ms_37, ma_38, ms_38, ma_39, ms_39, ma_40, ms_40, ma_41, ms_41, ma_42, ms_42, ma_43, ms_43, if_true, if_false, Option.bind_some, cb_e, lt_e, nI_1, hs_nar2, nh4, upd_at, vau_at, ma_30_18, ms_30_18, ma_31_18, ms_31_18, ma_28_0, ms_28_0, ma_28_1, ms_28_1, ma_28_2, ms_28_2, ma_28_3, ms_28_3, ma_28_4, ms_28_4, ma_42_0, ms_42_0, ma_42_1, ms_42_1, ma_42_2, ms_42_2, ma_36_0, ms_36_0, i6, if_pos b2f, a1, f3', if_pos z0]
      · rw [if_neg cu]
        have hz2 : ¬ nI (pU K V S n t).1 ≤ 0 := nI_nle (by omega) (by have := a2.2.2.2; omega)
        simp -implicitDefEqProofs (disch := first | assumption | omega | decide | exact And.intro (by omega) (by omega)) only [mck, mg_0, mp_0, mr_1, mg_2, mp_2, mr_3, mg_4, mp_4, mr_5, mr_6, mr_7, mr_8, mr_9, mg_10, mp_10, mg_11, mp_11, mg_12, mp_12, mg_13, mp_13, mg_14, mp_14, mg_15, mp_15, mg_16, mp_16, mg_17, mp_17, mg_18, mp_18, mg_19, mp_19, mg_20, mp_20, mr_21, mr_22, mr_23, mr_24, mr_25, mr_26, mr_27, mr_28, mr_29, mr_30, mr_31, mr_32, mg_33, mp_33, mr_34, mr_35, mr_36, mr_37, mr_38, mg_39, mp_39, mr_40, mr_41, mr_42, mg_43, mp_43, mr_44, mr_45, mg_46, mp_46, mr_47, mr_48, mg_49, mp_49, mg_50, mp_50, mg_51, mp_51, mr_52, mr_53, mr_54, mg_55, mp_55, mr_56, mr_57, mg_58, mp_58, mg_59, mp_59, mg_60, mp_60, mr_61, mg_62, mp_62, mr_63, mr_64, mr_65, mr_66, mr_67, mr_68, ma_1, ms_1, ma_2, ms_2, ma_3, ms_3, ma_4, ms_4, ma_5, ms_5, ma_6, ms_6, ma_7, ms_7, ma_8, ms_8, ma_9, ms_9, ma_10, ms_10, ma_11, ms_11, ma_12, ms_12, ma_13, ms_13, ma_14, ms_14, ma_15, ms_15, ma_16, ms_16, ma_17, ms_17, ma_18, ms_18, ma_19, ms_19, ma_20, ms_20, ma_21, ms_21, ma_22, ms_22, ma_23, ms_23, ma_24, ms_24, ma_25, ms_25, ma_26, ms_26, ma_27, ms_27, ma_28, ms_28, ma_29, ms_29, ma_30, ms_30, ma_31, ms_31, ma_32, ms_32, ma_33, ms_33, ma_34, ms_34, ma_35, ms_35, ma_36, ms_36, ma_37, ms_37, ma_38, ms_38, ma_39, ms_39, ma_40, ms_40, ma_41, ms_41, ma_42, ms_42, ma_43, ms_43, if_true, if_false, Option.bind_some, cb_e, lt_e, nI_1, hs_nar2, nh4, upd_at, vau_at, ma_30_18, ms_30_18, ma_31_18, ms_31_18, ma_28_0, ms_28_0, ma_28_1, ms_28_1, ma_28_2, ms_28_2, ma_28_3, ms_28_3, ma_28_4, ms_28_4, ma_42_0, ms_42_0, ma_42_1, ms_42_1, ma_42_2, ms_42_2, ma_36_0, ms_36_0, i6, if_pos b2f, a1, f3, if_neg hz2]
    have so := pU_ok (n0 := n0) hK hS n t hn0 hn ht
    refine ⟨fun q => ⟨F1, A1, by rw [b84, if_neg q], a2, a3⟩, fun q => ?_⟩
    obtain ⟨b1, b2, b3⟩ := a7 q
    obtain ⟨s1, s2, s3⟩ := so.2 q
    refine ⟨F1, A1, f, FU, [], (pU K V S n t).2.2, by rw [b84, if_pos q], ⟨⟨by rw [q] at a2; exact a2, hk.tr a3⟩, by rw [a4]; exact h12, by rw [a5]; exact h43, by rw [a6]; exact hWA, by rw [b3]; exact b1, by show c + (pU K V S n t).2.2.length + W.length ≤ _; omega⟩, b2, by rw [List.map_nil, List.append_nil], ⟨Nat.le_refl _, fun k hk => absurd hk List.not_mem_nil⟩, a3, by omega, by unfold FU; omega⟩
end MX80
