/-! ===== a law is told: the model ===== -/
/-- frame: rows of branches from br on, codes from c on -/
def MLw (br c lb lim : Nat) (F F' : Nat → Int32) (A A' : Nat → Nat → Int32) : Prop := (∀ k, ¬ (11 ≤ k ∧ k ≤ 14) → ¬ k = 33 → ¬ k = 39 → ¬ k = 43 → F' k = F k) ∧ (∀ a, ¬ (20 ≤ a ∧ a ≤ 27) → A' a = A a) ∧ (∀ a j, 20 ≤ a → a ≤ 24 → (j < br ∨ lb ≤ j) → A' a j = A a j) ∧ ∀ j, (j < c ∨ lim ≤ j) → A' 25 j = A 25 j ∧ A' 26 j = A 26 j
theorem MLw.tr {br c br1 c1 lb lim : Nat} {F F1 F2 : Nat → Int32} {A A1 A2 : Nat → Nat → Int32} (h : MLw br c lb lim F F1 A A1) (g : MLw br1 c1 lb lim F1 F2 A1 A2) (hb : br ≤ br1) (hc : c ≤ c1) : MLw br c lb lim F F2 A A2 := ⟨fun k q1 q2 q3 q4 => (g.1 k q1 q2 q3 q4).trans (h.1 k q1 q2 q3 q4), fun a q => (g.2.1 a q).trans (h.2.1 a q), fun a j q1 q2 q3 => (g.2.2.1 a j q1 q2 (by omega)).trans (h.2.2.1 a j q1 q2 q3), fun j q => ⟨(g.2.2.2 j (by omega)).1.trans (h.2.2.2 j q).1, (g.2.2.2 j (by omega)).2.trans (h.2.2.2 j q).2⟩⟩
theorem MLw.rf {br c lb lim : Nat} {F : Nat → Int32} {A : Nat → Nat → Int32} : MLw br c lb lim F F A A := ⟨fun _ _ _ _ _ => rfl, fun _ _ => rfl, fun _ _ _ _ _ => rfl, fun _ _ => ⟨rfl, rfl⟩⟩
/-- one cell of a branch is written -/
theorem MLw.row {br c lb lim : Nat} {F : Nat → Int32} {A : Nat → Nat → Int32} {a : Nat} {x : Int32} (h1 : 20 ≤ a) (h2 : a ≤ 24) (hb : br < lb) : MLw br c lb lim F F A (va_up A a (upd (A a) br x)) := by
  refine ⟨fun _ _ _ _ _ => rfl, fun b q => vau_ne (by omega), fun b j q1 q2 q3 => ?_, fun j q => ⟨by rw [vau_ne (by omega)], by rw [vau_ne (by omega)]⟩⟩
  by_cases e : b = a
  · subst e
    rw [vau_at, upd_ne (by omega)]
  · rw [vau_ne e]
theorem MLw.own {br c lb lim : Nat} {F F' : Nat → Int32} {A : Nat → Nat → Int32} (h : ∀ k, ¬ (11 ≤ k ∧ k ≤ 14) → ¬ k = 33 → ¬ k = 39 → ¬ k = 43 → F' k = F k) : MLw br c lb lim F F' A A := ⟨h, fun _ _ => rfl, fun _ _ _ _ _ => rfl, fun _ _ => ⟨rfl, rfl⟩⟩
theorem MTk.row {M : Nat} {K V PL : Nat → Nat} {A : Nat → Nat → Int32} {a : Nat} {g : Nat → Int32} (h : MTk A M K V PL) (ha : 6 ≤ a) : MTk (va_up A a g) M K V PL := by
  unfold MTk at *
  rw [vau_ne (by omega), vau_ne (by omega), vau_ne (by omega)]
  exact h
def lwM (ob : Option Nat) (o : Nat) (x : Int32) (f : Nat → Int32) : Nat → Int32 := match ob with
  | none => f
  | some b => upd f (o + b) x
def MLy (sd br c lb lim : Nat) (F F' : Nat → Int32) (A A' : Nat → Nat → Int32) : Prop := (∀ k, ¬ (11 ≤ k ∧ k ≤ 14) → ¬ k = 33 → ¬ k = 39 → ¬ k = 43 → F' k = F k) ∧ (∀ a, ¬ (18 ≤ a ∧ a ≤ 27) → A' a = A a) ∧ (∀ a j, 20 ≤ a → a ≤ 24 → (j < br ∨ lb ≤ j) → A' a j = A a j) ∧ (∀ j, (j < c ∨ lim ≤ j) → A' 25 j = A 25 j ∧ A' 26 j = A 26 j) ∧ ∀ j, ¬ (6 * sd ≤ j ∧ j < 6 * sd + 6) → A' 18 j = A 18 j ∧ A' 19 j = A 19 j
theorem MLw.y {sd br c lb lim : Nat} {F F' : Nat → Int32} {A A' : Nat → Nat → Int32} (h : MLw br c lb lim F F' A A') : MLy sd br c lb lim F F' A A' := ⟨h.1, fun a q => h.2.1 a (by omega), h.2.2.1, h.2.2.2, fun j _ => ⟨by rw [h.2.1 18 (by decide)], by rw [h.2.1 19 (by decide)]⟩⟩
theorem MLw.try {sd br c br1 c1 lb lim : Nat} {F F1 F2 : Nat → Int32} {A A1 A2 : Nat → Nat → Int32} (h : MLw br c lb lim F F1 A A1) (g : MLy sd br1 c1 lb lim F1 F2 A1 A2) (hb : br ≤ br1) (hc : c ≤ c1) : MLy sd br c lb lim F F2 A A2 := ⟨fun k q1 q2 q3 q4 => (g.1 k q1 q2 q3 q4).trans (h.1 k q1 q2 q3 q4), fun a q => (g.2.1 a q).trans (h.2.1 a (by omega)), fun a j q1 q2 q3 => (g.2.2.1 a j q1 q2 (by omega)).trans (h.2.2.1 a j q1 q2 q3), fun j q => ⟨(g.2.2.2.1 j (by omega)).1.trans (h.2.2.2 j q).1, (g.2.2.2.1 j (by omega)).2.trans (h.2.2.2 j q).2⟩, fun j q => ⟨by rw [(g.2.2.2.2 j q).1, h.2.1 18 (by decide)], by rw [(g.2.2.2.2 j q).2, h.2.1 19 (by decide)]⟩⟩
section M9c
variable {sd cb M lb : Nat} {K V PL : Nat → Nat} {B : Nat → Nat → Int64}
theorem m_ex {s : Nat × Nat} {c : Nat} {F : Nat → Int32} {A : Nat → Nat → Int32} (hcb : cb ≤ 420) (hK : TkK M K V) (hs : s.2 ≤ M) (hp : MPo F PL s.1 s.2) (hk : MTk A M K V PL) (h39 : s.1 = 0 → F 12 = 0 ∧ F 39 = nI c ∧ c ≤ cb + s.2) : ∃ F' A', fX12_expression 0 (mkM F A B) = some ((), mkM F' A' B) ∧ MPo F' PL (exs K V s).1 (exs K V s).2 ∧ (∀ br lb, MLw br c lb (cb + 402) F F' A A') ∧ MTk A' M K V PL ∧ F' 33 = F 33 ∧ (∀ a, ¬ a = 25 → ¬ a = 26 → ¬ a = 27 → A' a = A a) ∧ ((exs K V s).1 = 0 → F' 12 = 0 ∧ F' 39 = nI (c + (exl K V s).length) ∧ SegM A' c (exl K V s)) := by
  unfold exs exl
  by_cases c0 : s.1 = 0
  · rw [if_pos c0]
    have hp' := hp
    rw [c0] at hp'
    obtain ⟨w1, w2, w3⟩ := h39 c0
    obtain ⟨F', A', z1, z2, z3, z4⟩ := m_expr (B := B) hcb hK hs hp' hk w1 w2 w3
    exact ⟨F', A', z1, z2, fun br lb => ⟨fun k q1 q2 q3 q4 => z3.1 k (by omega) (by omega) (by omega) (by omega) q3 q4, fun a q => z3.2.1 a (by omega) (by omega) (by omega), fun a j q1 q2 _ => by rw [z3.2.1 a (by omega) (by omega) (by omega)], z3.2.2.1⟩, hk.tr z3, z3.1 33 (by decide) (by decide) (by decide) (by decide) (by decide) (by decide), z3.2.1, z4⟩
  · rw [if_neg c0]
    exact ⟨upd F 43 0, A, m_exprF hp c0, hp.eq (upd_ne (by decide)) (upd_ne (by decide)) (upd_ne (by decide)), fun br lb => MLw.own (fun k _ _ _ q => upd_ne q), hk, upd_ne (by decide), fun _ _ _ _ => rfl, fun q => absurd q c0⟩
theorem m_term {s : Nat × Nat} {c br : Nat} {F : Nat → Int32} {A : Nat → Nat → Int32} (hcb : cb ≤ 420) (hK : TkK M K V) (hs : s.2 ≤ M) (hs2 : s.1 ≤ 2) (hp : MPo F PL s.1 s.2) (hk : MTk A M K V PL) (h39 : s.1 = 0 → F 12 = 0 ∧ F 39 = nI c ∧ c ≤ cb + s.2) (h33 : F 33 = nI br) (hbr : br < lb) (hlb : lb ≤ 260) : ∃ F' A', fX12_term 0 (mkM F A B) = some ((), mkM F' A' B) ∧ MPo F' PL (exs K V s).1 (exs K V s).2 ∧ MLw br c lb (cb + 402) F F' A A' ∧ MTk A' M K V PL ∧ F' 33 = nI (br + 1) ∧ (∀ a, ¬ (23 ≤ a ∧ a ≤ 27) → A' a = A a) ∧ ((exs K V s).1 = 0 → F' 12 = 0 ∧ F' 39 = nI (c + (exl K V s).length) ∧ A' 23 br = nI c ∧ A' 24 br = nI (c + (exl K V s).length) ∧ SegM A' c (exl K V s)) := by
  have b260 : br < 260 := by omega
  generalize hA1 : va_up A 23 (upd (A 23) br (F 39)) = A1
  have r1 : MLw br c lb (cb + 402) F F A A1 := by rw [← hA1]; exact MLw.row (by decide) (by decide) hbr
  have k1 : MTk A1 M K V PL := by rw [← hA1]; exact hk.row (by decide)
  have o1 : ∀ a, ¬ a = 23 → A1 a = A a := fun a ha => by rw [← hA1, vau_ne ha]
  have p1 : A1 23 br = F 39 := by rw [← hA1, vau_at, upd_at]
  have hx : ∃ F2 A2, fX12_term 0 (mkM F A B) = fX12_term_b24 0 (mkM F2 A2 B) ∧ MPo F2 PL (exs K V s).1 (exs K V s).2 ∧ MLw br c lb (cb + 402) F F2 A1 A2 ∧ MTk A2 M K V PL ∧ F2 33 = F 33 ∧ (∀ a, ¬ a = 25 → ¬ a = 26 → ¬ a = 27 → A2 a = A1 a) ∧ ((exs K V s).1 = 0 → F2 12 = 0 ∧ F2 39 = nI (c + (exl K V s).length) ∧ SegM A2 c (exl K V s)) := by
    by_cases c0 : s.1 = 0
    · obtain ⟨F2, A2, z1, z2, z3, z4, z5, z6, z7⟩ := m_ex (B := B) hcb hK hs hp k1 h39
      have f13 : F 13 = 0 := by rw [hp.1, c0]; rfl
      refine ⟨F2, A2, ?_, z2, z3 br lb, z4, z5, z6, z7⟩
      unfold fX12_term
      simp -implicitDefEqProofs (disch := first | assumption | omega | decide | exact And.intro (by omega) (by omega)) only [mck, mg_0, mp_0, mr_1, mg_2, mp_2, mr_3, mg_4, mp_4, mr_5, mr_6, mr_7, mr_8, mr_9, mg_10, mp_10, mg_11, mp_11, mg_12, mp_12, mg_13, mp_13, mg_14, mp_14, mg_15, mp_15, mg_16, mp_16, mg_17, mp_17, mg_18, mp_18, mg_19, mp_19, mg_20, mp_20, mr_21, mr_22, mr_23, mr_24, mr_25, mr_26, mr_27, mr_28, mr_29, mr_30, mr_31, mr_32, mg_33, mp_33, mr_34, mr_35, mr_36, mr_37, mr_38, mg_39, mp_39, mr_40, mr_41, mr_42, mg_43, mp_43, mr_44, mr_45, mg_46, mp_46, mr_47, mr_48, mg_49, mp_49, mg_50, mp_50, mg_51, mp_51, mr_52, mr_53, mr_54, mg_55, mp_55, mr_56, mr_57, mg_58, mp_58, mg_59, mp_59, mg_60, mp_60, mr_61, mg_62, mp_62, mr_63, mr_64, mr_65, mr_66, mr_67, mr_68, ma_1, ms_1, ma_2, ms_2, ma_3, ms_3, ma_4, ms_4, ma_5, ms_5, ma_6, ms_6, ma_7, ms_7, ma_8, ms_8, ma_9, ms_9, ma_10, ms_10, ma_11, ms_11, ma_12, ms_12, ma_13, ms_13, ma_14, ms_14, ma_15, ms_15, ma_16, ms_16, ma_17, ms_17, ma_18, ms_18, ma_19, ms_19, ma_20, ms_20, ma_21, ms_21, ma_22, ms_22, ma_23, ms_23, ma_24, ms_24, ma_25, ms_25, ma_26, ms_26, ma_27, ms_27, ma_28, ms_28, ma_29, ms_29, ma_30, ms_30, ma_31, ms_31, ma_32, ms_32, ma_33, ms_33, ma_34, ms_34, ma_35, ms_35, ma_36, ms_36, ma_37, ms_37, ma_38, ms_38, ma_39, ms_39, ma_40, ms_40, ma_41, ms_41, ma_42, ms_42, ma_43, ms_43, if_true, if_false, Option.bind_some, cb_e, lt_e, nI_1, hs_nar2, nh4, upd_at, vau_at, ma_30_18, ms_30_18, ma_31_18, ms_31_18, ma_28_0, ms_28_0, ma_28_1, ms_28_1, ma_28_2, ms_28_2, ma_28_3, ms_28_3, ma_28_4, ms_28_4, ma_42_0, ms_42_0, ma_42_1, ms_42_1, ma_42_2, ms_42_2, ma_36_0, ms_36_0, h33, hA1, f13, z1]
    · have hz : ¬ F 13 = 0 := by rw [hp.1]; exact nI_ne0 (by omega) (by omega)
      rw [exs_F c0]
      refine ⟨F, A1, ?_, hp, MLw.rf, k1, rfl, fun _ _ _ _ => rfl, fun q => absurd q c0⟩
      unfold fX12_term
      simp -implicitDefEqProofs (disch := first | assumption | omega | decide | exact And.intro (by omega) (by omega)) only [mck, mg_0, mp_0, mr_1, mg_2, mp_2, mr_3, mg_4, mp_4, mr_5, mr_6, mr_7, mr_8, mr_9, mg_10, mp_10, mg_11, mp_11, mg_12, mp_12, mg_13, mp_13, mg_14, mp_14, mg_15, mp_15, mg_16, mp_16, mg_17, mp_17, mg_18, mp_18, mg_19, mp_19, mg_20, mp_20, mr_21, mr_22, mr_23, mr_24, mr_25, mr_26, mr_27, mr_28, mr_29, mr_30, mr_31, mr_32, mg_33, mp_33, mr_34, mr_35, mr_36, mr_37, mr_38, mg_39, mp_39, mr_40, mr_41, mr_42, mg_43, mp_43, mr_44, mr_45, mg_46, mp_46, mr_47, mr_48, mg_49, mp_49, mg_50, mp_50, mg_51, mp_51, mr_52, mr_53, mr_54, mg_55, mp_55, mr_56, mr_57, mg_58, mp_58, mg_59, mp_59, mg_60, mp_60, mr_61, mg_62, mp_62, mr_63, mr_64, mr_65, mr_66, mr_67, mr_68, ma_1, ms_1, ma_2, ms_2, ma_3, ms_3, ma_4, ms_4, ma_5, ms_5, ma_6, ms_6, ma_7, ms_7, ma_8, ms_8, ma_9, ms_9, ma_10, ms_10, ma_11, ms_11, ma_12, ms_12, ma_13, ms_13, ma_14, ms_14, ma_15, ms_15, ma_16, ms_16, ma_17, ms_17, ma_18, ms_18, ma_19, ms_19, ma_20, ms_20, ma_21, ms_21, ma_22, ms_22, ma_23, ms_23, ma_24, ms_24, ma_25, ms_25, ma_26, ms_26, ma_27, ms_27, ma_28, ms_28, ma_29, ms_29, ma_30, ms_30, ma_31, ms_31, ma_32, ms_32, ma_33, ms_33, ma_34, ms_34, ma_35, ms_35, ma_36, ms_36, ma_37, ms_37, ma_38, ms_38, ma_39, ms_39, ma_40, ms_40, ma_41, ms_41, ma_42, ms_42, ma_43, ms_43, if_true, if_false, Option.bind_some, cb_e, lt_e, nI_1, hs_nar2, nh4, upd_at, vau_at, ma_30_18, ms_30_18, ma_31_18, ms_31_18, ma_28_0, ms_28_0, ma_28_1, ms_28_1, ma_28_2, ms_28_2, ma_28_3, ms_28_3, ma_28_4, ms_28_4, ma_42_0, ms_42_0, ma_42_1, ms_42_1, ma_42_2, ms_42_2, ma_36_0, ms_36_0, h33, hA1, if_neg hz]
  obtain ⟨F2, A2, z1, z2, z3, z4, z5, z6, z7⟩ := hx
  have f33 : F2 33 = nI br := by rw [z5]; exact h33
  have run : fX12_term_b24 0 (mkM F2 A2 B) = some ((), mkM (upd F2 33 (nI (br + 1))) (va_up A2 24 (upd (A2 24) br (F2 39))) B) := by
    unfold fX12_term_b24
    simp -implicitDefEqProofs (disch := first | assumption | omega | decide | exact And.intro (by omega) (by omega)) only [mck, mg_0, mp_0, mr_1, mg_2, mp_2, mr_3, mg_4, mp_4, mr_5, mr_6, mr_7, mr_8, mr_9, mg_10, mp_10, mg_11, mp_11, mg_12, mp_12, mg_13, mp_13, mg_14, mp_14, mg_15, mp_15, mg_16, mp_16, mg_17, mp_17, mg_18, mp_18, mg_19, mp_19, mg_20, mp_20, mr_21, mr_22, mr_23, mr_24, mr_25, mr_26, mr_27, mr_28, mr_29, mr_30, mr_31, mr_32, mg_33, mp_33, mr_34, mr_35, mr_36, mr_37, mr_38, mg_39, mp_39, mr_40, mr_41, mr_42, mg_43, mp_43, mr_44, mr_45, mg_46, mp_46, mr_47, mr_48, mg_49, mp_49, mg_50, mp_50, mg_51, mp_51, mr_52, mr_53, mr_54, mg_55, mp_55, mr_56, mr_57, mg_58, mp_58, mg_59, mp_59, mg_60, mp_60, mr_61, mg_62, mp_62, mr_63, mr_64, mr_65, mr_66, mr_67, mr_68, ma_1, ms_1, ma_2, ms_2, ma_3, ms_3, ma_4, ms_4, ma_5, ms_5, ma_6, ms_6, ma_7, ms_7, ma_8, ms_8, ma_9, ms_9, ma_10, ms_10, ma_11, ms_11, ma_12, ms_12, ma_13, ms_13, ma_14, ms_14, ma_15, ms_15, ma_16, ms_16, ma_17, ms_17, ma_18, ms_18, ma_19, ms_19, ma_20, ms_20, ma_21, ms_21, ma_22, ms_22, ma_23, ms_23, ma_24, ms_24, ma_25, ms_25, ma_26, ms_26, ma_27, ms_27, ma_28, ms_28, ma_29, ms_29, ma_30, ms_30, ma_31, ms_31, ma_32, ms_32, ma_33, ms_33, ma_34, ms_34, ma_35, ms_35, ma_36, ms_36, ma_37, ms_37, ma_38, ms_38, ma_39, ms_39, ma_40, ms_40, ma_41, ms_41, ma_42, ms_42, ma_43, ms_43, if_true, if_false, Option.bind_some, cb_e, lt_e, nI_1, hs_nar2, nh4, upd_at, vau_at, ma_30_18, ms_30_18, ma_31_18, ms_31_18, ma_28_0, ms_28_0, ma_28_1, ms_28_1, ma_28_2, ms_28_2, ma_28_3, ms_28_3, ma_28_4, ms_28_4, ma_42_0, ms_42_0, ma_42_1, ms_42_1, ma_42_2, ms_42_2, ma_36_0, ms_36_0, f33]
  have w1 : MLw br c lb (cb + 402) F2 F2 A2 (va_up A2 24 (upd (A2 24) br (F2 39))) := MLw.row (by decide) (by decide) hbr
  refine ⟨_, _, z1.trans run, z2.eq (upd_ne (by decide)) (upd_ne (by decide)) (upd_ne (by decide)), ((r1.tr z3 (Nat.le_refl _) (Nat.le_refl _)).tr w1 (Nat.le_refl _) (Nat.le_refl _)).tr (MLw.own (fun k _ q _ _ => upd_ne q)) (Nat.le_refl _) (Nat.le_refl _), z4.row (by decide), upd_at _ _ _, fun a q => by rw [vau_ne (by omega), z6 a (by omega) (by omega) (by omega), o1 a (by omega)], fun q => ?_⟩
  obtain ⟨y1, y2, y3⟩ := z7 q
  have s0 : s.1 = 0 := by
    unfold exs at q
    by_cases c0 : s.1 = 0
    · exact c0
    · rw [if_neg c0] at q; exact absurd q c0
  refine ⟨by rw [upd_ne (by decide)]; exact y1, by rw [upd_ne (by decide)]; exact y2, ?_, ?_, y3.eq (fun j _ _ => ⟨by rw [vau_ne (by decide)], by rw [vau_ne (by decide)]⟩)⟩
  · rw [vau_ne (by decide), z6 23 (by decide) (by decide) (by decide), p1]
    exact (h39 s0).2.1
  · rw [vau_at, upd_at, y2]
theorem m_brn {t br c i fuel : Nat} {x1 x2 : Int32} {F : Nat → Int32} {A : Nat → Nat → Int32} (hcb : cb ≤ 420) (hK : TkK M K V) (ht : t ≤ M) (hp : MPo F PL 0 t) (hk : MTk A M K V PL) (h12 : F 12 = 0) (h33 : F 33 = nI br) (hbr : br < lb) (hlb : lb ≤ 260) (h39 : F 39 = nI c) (hc : c ≤ cb + t) (e8 : K t = 8) (hi : i < 4) : ∃ F' A', fX12_tellLaw_b12 (fuel + 1) 0 x1 x2 (nI i) (mkM F A B) = fX12_tellLaw_b12 fuel 0 x1 x2 (nI (i + 1)) (mkM F' A' B) ∧ MPo F' PL (bs7 K V t).1 (bs7 K V t).2 ∧ MLw br c lb (cb + 402) F F' A A' ∧ MTk A' M K V PL ∧ F' 33 = nI (br + 1) ∧ ((bs7 K V t).1 = 0 → F' 12 = 0 ∧ F' 39 = nI (c + (brL K V t).1.length + (brL K V t).2.1.length + (brL K V t).2.2.length) ∧ c + (brL K V t).1.length + (brL K V t).2.1.length + (brL K V t).2.2.length ≤ cb + (bs7 K V t).2 ∧ (A' 20 br = 1 ∧ A' 21 br = nI c ∧ A' 22 br = nI (c + (brL K V t).1.length) ∧ A' 23 br = nI (c + (brL K V t).1.length + (brL K V t).2.1.length) ∧ A' 24 br = nI (c + (brL K V t).1.length + (brL K V t).2.1.length + (brL K V t).2.2.length)) ∧ SegM A' c (brL K V t).1 ∧ SegM A' (c + (brL K V t).1.length) (brL K V t).2.1 ∧ SegM A' (c + (brL K V t).1.length + (brL K V t).2.1.length) (brL K V t).2.2) := by
  have hM := hK.1
  have b260 : br < 260 := by omega
  obtain ⟨⟨m1, m1'⟩, ⟨m2, m2'⟩, ⟨m3, m3'⟩, ⟨m4, m4'⟩, ⟨m5, m5'⟩, ⟨m6, m6'⟩, ⟨m7, m7'⟩, o1, o2, o3, o4, o5, o6, o7⟩ := bs_ok hK ht
  have n4' : ¬ nI i = (4 : Int32) := fun q => by
    have := (nI_eq (b := 4) (by omega) (by decide)).1 q
    omega
  have f13 : F 13 = 0 := hp.1
  have z0 : (0 : Int32) ≤ 0 := by decide
  have is28 : fX12_is 0 28 (mkM F A B) = some (b2 (decide (K t = 8)), mkM F A B) := m_is (B := B) hK ht hp hk (k := 8) rfl
  rw [decide_eq_true e8] at is28
  obtain ⟨G1, a1, a2, a3⟩ := m_go (B := B) hK ht hp hk e8 (by decide)
  have a2' : MPo G1 PL (bs1 K t).1 (bs1 K t).2 := a2
  have g33 : G1 33 = nI br := by rw [a3 33 (by decide) (by decide) (by decide)]; exact h33
  have g39 : G1 39 = nI c := by rw [a3 39 (by decide) (by decide) (by decide)]; exact h39
  have g12 : G1 12 = 0 := by rw [a3 12 (by decide) (by decide) (by decide)]; exact h12
  generalize hA1 : va_up A 20 (upd (A 20) br 1) = A1
  have r1 : MLw br c lb (cb + 402) G1 G1 A A1 := by rw [← hA1]; exact MLw.row (by decide) (by decide) hbr
  have k1 : MTk A1 M K V PL := by rw [← hA1]; exact hk.row (by decide)
  generalize hA2 : va_up A1 21 (upd (A1 21) br (nI c)) = A2
  have r2 : MLw br c lb (cb + 402) G1 G1 A1 A2 := by rw [← hA2]; exact MLw.row (by decide) (by decide) hbr
  have k2 : MTk A2 M K V PL := by rw [← hA2]; exact k1.row (by decide)
  obtain ⟨G2, A3, b1, b2, b3, b4, b5, b6, b7⟩ := m_ex (B := B) (c := c) hcb hK m1 a2' k2 (fun q => ⟨g12, g39, by have := o1 q; omega⟩)
  have b2' : MPo G2 PL (bs2 K V t).1 (bs2 K V t).2 := b2
  have b7' : (bs2 K V t).1 = 0 → G2 12 = 0 ∧ G2 39 = nI (c + (brL K V t).1.length) ∧ SegM A3 c (brL K V t).1 := b7
  obtain ⟨G3, d1, d2, d3⟩ := m_stp (B := B) hK (k := 60) m2 b2' b4 rfl (by decide)
  have d2' : MPo G3 PL (bs3 K V t).1 (bs3 K V t).2 := d2
  have d1' : fX12_must 0 13 (mkM G2 A3 B) = some ((), mkM G3 A3 B) := d1
  have q3 : (bs3 K V t).1 = 0 → G3 12 = 0 ∧ G3 39 = nI (c + (brL K V t).1.length) ∧ c + (brL K V t).1.length ≤ cb + (bs3 K V t).2 := fun q => by
    obtain ⟨w1, w2⟩ := o3 q
    obtain ⟨w3, w4, _⟩ := o2 w1
    have := o1 w3
    obtain ⟨y1, y2, _⟩ := b7' w1
    exact ⟨by rw [d3 12 (by decide) (by decide) (by decide)]; exact y1, by rw [d3 39 (by decide) (by decide) (by decide)]; exact y2, by omega⟩
  have g333 : G3 33 = nI br := by rw [d3 33 (by decide) (by decide) (by decide), b5]; exact g33
  generalize hA4 : va_up A3 22 (upd (A3 22) br (G3 39)) = A4
  have r4 : MLw br (c + (brL K V t).1.length) lb (cb + 402) G3 G3 A3 A4 := by rw [← hA4]; exact MLw.row (by decide) (by decide) hbr
  have k4 : MTk A4 M K V PL := by rw [← hA4]; exact b4.row (by decide)
  have h110 : ∃ G4 A5, fX12_tellLaw_b12 (fuel + 1) 0 x1 x2 (nI i) (mkM F A B) = fX12_tellLaw_b110 (fX12_tellLaw_b12 fuel) 0 x1 x2 (nI (i + 1)) (mkM G4 A5 B) ∧ MPo G4 PL (bs4 K V t).1 (bs4 K V t).2 ∧ MLw br (c + (brL K V t).1.length) lb (cb + 402) G3 G4 A4 A5 ∧ MTk A5 M K V PL ∧ G4 33 = nI br ∧ (∀ a, ¬ a = 25 → ¬ a = 26 → ¬ a = 27 → A5 a = A4 a) ∧ ((bs4 K V t).1 = 0 → G4 12 = 0 ∧ G4 39 = nI (c + (brL K V t).1.length + (brL K V t).2.1.length) ∧ SegM A5 (c + (brL K V t).1.length) (brL K V t).2.1) := by
    by_cases c0 : (bs3 K V t).1 = 0
    · obtain ⟨G4, A5, z1, z2, z3, z4, z5, z6, z7⟩ := m_ex (B := B) hcb hK m3 d2' k4 q3
      have f313 : G3 13 = 0 := by rw [d2'.1, c0]; rfl
      refine ⟨G4, A5, ?_, z2, z3 br lb, z4, by rw [z5]; exact g333, z6, z7⟩
      rw [fX12_tellLaw_b12]
      unfold fX12_tellLaw_b38
      simp -implicitDefEqProofs (disch := first | assumption | omega | decide | exact And.intro (by omega) (by omega)) only [mck, mg_0, mp_0, mr_1, mg_2, mp_2, mr_3, mg_4, mp_4, mr_5, mr_6, mr_7, mr_8, mr_9, mg_10, mp_10, mg_11, mp_11, mg_12, mp_12, mg_13, mp_13, mg_14, mp_14, mg_15, mp_15, mg_16, mp_16, mg_17, mp_17, mg_18, mp_18, mg_19, mp_19, mg_20, mp_20, mr_21, mr_22, mr_23, mr_24, mr_25, mr_26, mr_27, mr_28, mr_29, mr_30, mr_31, mr_32, mg_33, mp_33, mr_34, mr_35, mr_36, mr_37, mr_38, mg_39, mp_39, mr_40, mr_41, mr_42, mg_43, mp_43, mr_44, mr_45, mg_46, mp_46, mr_47, mr_48, mg_49, mp_49, mg_50, mp_50, mg_51, mp_51, mr_52, mr_53, mr_54, mg_55, mp_55, mr_56, mr_57, mg_58, mp_58, mg_59, mp_59, mg_60, mp_60, mr_61, mg_62, mp_62, mr_63, mr_64, mr_65, mr_66, mr_67, mr_68, ma_1, ms_1, ma_2, ms_2, ma_3, ms_3, ma_4, ms_4, ma_5, ms_5, ma_6, ms_6, ma_7, ms_7, ma_8, ms_8, ma_9, ms_9, ma_10, ms_10, ma_11, ms_11, ma_12, ms_12, ma_13, ms_13, ma_14, ms_14, ma_15, ms_15, ma_16, ms_16, ma_17, ms_17, ma_18, ms_18, ma_19, ms_19, ma_20, ms_20, ma_21, ms_21, ma_22, ms_22, ma_23, ms_23, ma_24, ms_24, ma_25, ms_25, ma_26, ms_26, ma_27, ms_27, ma_28, ms_28, ma_29, ms_29, ma_30, ms_30, ma_31, ms_31, ma_32, ms_32, ma_33, ms_33, ma_34, ms_34, ma_35, ms_35, ma_36, ms_36, ma_37, ms_37, ma_38, ms_38, ma_39, ms_39, ma_40, ms_40, ma_41, ms_41, ma_42, ms_42, ma_43, ms_43, if_true, if_false, Option.bind_some, cb_e, lt_e, nI_1, hs_nar2, nh4, upd_at, vau_at, ma_30_18, ms_30_18, ma_31_18, ms_31_18, ma_28_0, ms_28_0, ma_28_1, ms_28_1, ma_28_2, ms_28_2, ma_28_3, ms_28_3, ma_28_4, ms_28_4, ma_42_0, ms_42_0, ma_42_1, ms_42_1, ma_42_2, ms_42_2, ma_36_0, ms_36_0, f13, is28, if_neg b2t, if_neg n4', if_pos z0, a1, g33, hA1, g39, hA2, b1, d1', g333, hA4, f313, z1]
    · have hz : ¬ G3 13 = 0 := by rw [d2'.1]; exact nI_ne0 (by omega) (by omega)
      have e4 : bs4 K V t = bs3 K V t := exs_F c0
      rw [e4]
      refine ⟨G3, A4, ?_, d2', MLw.rf, k4, g333, fun _ _ _ _ => rfl, fun q => absurd q c0⟩
      rw [fX12_tellLaw_b12]
      unfold fX12_tellLaw_b38
      simp -implicitDefEqProofs (disch := first | assumption | omega | decide | exact And.intro (by omega) (by omega)) only [mck, mg_0, mp_0, mr_1, mg_2, mp_2, mr_3, mg_4, mp_4, mr_5, mr_6, mr_7, mr_8, mr_9, mg_10, mp_10, mg_11, mp_11, mg_12, mp_12, mg_13, mp_13, mg_14, mp_14, mg_15, mp_15, mg_16, mp_16, mg_17, mp_17, mg_18, mp_18, mg_19, mp_19, mg_20, mp_20, mr_21, mr_22, mr_23, mr_24, mr_25, mr_26, mr_27, mr_28, mr_29, mr_30, mr_31, mr_32, mg_33, mp_33, mr_34, mr_35, mr_36, mr_37, mr_38, mg_39, mp_39, mr_40, mr_41, mr_42, mg_43, mp_43, mr_44, mr_45, mg_46, mp_46, mr_47, mr_48, mg_49, mp_49, mg_50, mp_50, mg_51, mp_51, mr_52, mr_53, mr_54, mg_55, mp_55, mr_56, mr_57, mg_58, mp_58, mg_59, mp_59, mg_60, mp_60, mr_61, mg_62, mp_62, mr_63, mr_64, mr_65, mr_66, mr_67, mr_68, ma_1, ms_1, ma_2, ms_2, ma_3, ms_3, ma_4, ms_4, ma_5, ms_5, ma_6, ms_6, ma_7, ms_7, ma_8, ms_8, ma_9, ms_9, ma_10, ms_10, ma_11, ms_11, ma_12, ms_12, ma_13, ms_13, ma_14, ms_14, ma_15, ms_15, ma_16, ms_16, ma_17, ms_17, ma_18, ms_18, ma_19, ms_19, ma_20, ms_20, ma_21, ms_21, ma_22, ms_22, ma_23, ms_23, ma_24, ms_24, ma_25, ms_25, ma_26, ms_26, ma_27, ms_27, ma_28, ms_28, ma_29, ms_29, ma_30, ms_30, ma_31, ms_31, ma_32, ms_32, ma_33, ms_33, ma_34, ms_34, ma_35, ms_35, ma_36, ms_36, ma_37, ms_37, ma_38, ms_38, ma_39, ms_39, ma_40, ms_40, ma_41, ms_41, ma_42, ms_42, ma_43, ms_43, if_true, if_false, Option.bind_some, cb_e, lt_e, nI_1, hs_nar2, nh4, upd_at, vau_at, ma_30_18, ms_30_18, ma_31_18, ms_31_18, ma_28_0, ms_28_0, ma_28_1, ms_28_1, ma_28_2, ms_28_2, ma_28_3, ms_28_3, ma_28_4, ms_28_4, ma_42_0, ms_42_0, ma_42_1, ms_42_1, ma_42_2, ms_42_2, ma_36_0, ms_36_0, f13, is28, if_neg b2t, if_neg n4', if_pos z0, a1, g33, hA1, g39, hA2, b1, d1', g333, hA4, if_neg hz]
  obtain ⟨G4, A5, f1, f2, f3, f4, f5, f6, f7⟩ := h110
  obtain ⟨G5, i1, i2, i3⟩ := m_stp (B := B) hK (k := 9) m4 f2 f4 rfl (by decide)
  have i2' : MPo G5 PL (bs5 K V t).1 (bs5 K V t).2 := i2
  have i1' : fX12_must 0 29 (mkM G4 A5 B) = some ((), mkM G5 A5 B) := i1
  have q5 : (bs5 K V t).1 = 0 → G5 12 = 0 ∧ G5 39 = nI (c + (brL K V t).1.length + (brL K V t).2.1.length) ∧ c + (brL K V t).1.length + (brL K V t).2.1.length ≤ cb + (bs5 K V t).2 := fun q => by
    obtain ⟨w1, w2⟩ := o5 q
    obtain ⟨w3, w4, _⟩ := o4 w1
    have := (q3 w3).2.2
    obtain ⟨y1, y2, _⟩ := f7 w1
    exact ⟨by rw [i3 12 (by decide) (by decide) (by decide)]; exact y1, by rw [i3 39 (by decide) (by decide) (by decide)]; exact y2, by omega⟩
  obtain ⟨G6, A6, j1, j2, j3, j4, j5, j6, j7⟩ := m_term (B := B) (lb := lb) hcb hK m5 m5' i2' f4 q5 (by rw [i3 33 (by decide) (by decide) (by decide)]; exact f5) hbr hlb
  have j2' : MPo G6 PL (bs6 K V t).1 (bs6 K V t).2 := j2
  obtain ⟨G7, p1, p2, p3⟩ := m_stp (B := B) hK (k := 10) m6 j2' j4 rfl (by decide)
  have p1' : fX12_must 0 30 (mkM G6 A6 B) = some ((), mkM G7 A6 B) := p1
  have run : fX12_tellLaw_b110 (fX12_tellLaw_b12 fuel) 0 x1 x2 (nI (i + 1)) (mkM G4 A5 B) = fX12_tellLaw_b12 fuel 0 x1 x2 (nI (i + 1)) (mkM G7 A6 B) := by
    unfold fX12_tellLaw_b110
    simp -implicitDefEqProofs (disch := first | assumption | omega | decide | exact And.intro (by omega) (by omega)) only [mck, mg_0, mp_0, mr_1, mg_2, mp_2, mr_3, mg_4, mp_4, mr_5, mr_6, mr_7, mr_8, mr_9, mg_10, mp_10, mg_11, mp_11, mg_12, mp_12, mg_13, mp_13, mg_14, mp_14, mg_15, mp_15, mg_16, mp_16, mg_17, mp_17, mg_18, mp_18, mg_19, mp_19, mg_20, mp_20, mr_21, mr_22, mr_23, mr_24, mr_25, mr_26, mr_27, mr_28, mr_29, mr_30, mr_31, mr_32, mg_33, mp_33, mr_34, mr_35, mr_36, mr_37, mr_38, mg_39, mp_39, mr_40, mr_41, mr_42, mg_43, mp_43, mr_44, mr_45, mg_46, mp_46, mr_47, mr_48, mg_49, mp_49, mg_50, mp_50, mg_51, mp_51, mr_52, mr_53, mr_54, mg_55, mp_55, mr_56, mr_57, mg_58, mp_58, mg_59, mp_59, mg_60, mp_60, mr_61, mg_62, mp_62, mr_63, mr_64, mr_65, mr_66, mr_67, mr_68, ma_1, ms_1, ma_2, ms_2, ma_3, ms_3, ma_4, ms_4, ma_5, ms_5, ma_6, ms_6, ma_7, ms_7, ma_8, ms_8, ma_9, ms_9, ma_10, ms_10, ma_11, ms_11, ma_12, ms_12, ma_13, ms_13, ma_14, ms_14, ma_15, ms_15, ma_16, ms_16, ma_17, ms_17, ma_18, ms_18, ma_19, ms_19, ma_20, ms_20, ma_21, ms_21, ma_22, ms_22, ma_23, ms_23, ma_24, ms_24, ma_25, ms_25, ma_26, ms_26, ma_27, ms_27, ma_28, ms_28, ma_29, ms_29, ma_30, ms_30, ma_31, ms_31, ma_32, ms_32, ma_33, ms_33, ma_34, ms_34, ma_35, ms_35, ma_36, ms_36, ma_37, ms_37, ma_38, ms_38, ma_39, ms_39, ma_40, ms_40, ma_41, ms_41, ma_42, ms_42, ma_43, ms_43, if_true, if_false, Option.bind_some, cb_e, lt_e, nI_1, hs_nar2, nh4, upd_at, vau_at, ma_30_18, ms_30_18, ma_31_18, ms_31_18, ma_28_0, ms_28_0, ma_28_1, ms_28_1, ma_28_2, ms_28_2, ma_28_3, ms_28_3, ma_28_4, ms_28_4, ma_42_0, ms_42_0, ma_42_1, ms_42_1, ma_42_2, ms_42_2, ma_36_0, ms_36_0, i1', j1, p1']
  have own : ∀ {cx : Nat} {X Y : Nat → Int32} {Z : Nat → Nat → Int32}, (∀ k, ¬ k = 11 → ¬ k = 13 → ¬ k = 14 → Y k = X k) → MLw br cx lb (cb + 402) X Y Z Z := fun h => MLw.own (fun k q _ _ _ => h k (by omega) (by omega) (by omega))
  have U1 := ((own (cx := c) (Z := A) a3).tr r1 (Nat.le_refl _) (Nat.le_refl _)).tr r2 (Nat.le_refl _) (Nat.le_refl _)
  have U2 := U1.tr (b3 br lb) (Nat.le_refl _) (Nat.le_refl _)
  have W3 := (own (cx := c + (brL K V t).1.length) (Z := A3) d3).tr r4 (Nat.le_refl _) (Nat.le_refl _)
  have W4 := W3.tr f3 (Nat.le_refl _) (Nat.le_refl _)
  have X5 := (own (cx := c + (brL K V t).1.length + (brL K V t).2.1.length) (Z := A5) i3).tr j3 (Nat.le_refl _) (Nat.le_refl _)
  have X6 := X5.tr (own (cx := c + (brL K V t).1.length + (brL K V t).2.1.length) (Z := A6) p3) (Nat.le_refl _) (Nat.le_refl _)
  have W6 := W4.tr X6 (Nat.le_refl _) (Nat.le_add_right _ _)
  have U6 := U2.tr W6 (Nat.le_refl _) (Nat.le_add_right _ _)
  refine ⟨G7, A6, f1.trans run, p2, U6, j4, by rw [p3 33 (by decide) (by decide) (by decide)]; exact j5, fun z => ?_⟩
  obtain ⟨z6, z6'⟩ := o7 z
  obtain ⟨z5, g5e, _, _⟩ := o6 z6
  obtain ⟨z4, z4'⟩ := o5 z5
  obtain ⟨z3, _⟩ := o4 z4
  obtain ⟨z2, _⟩ := o3 z3
  obtain ⟨_, _, s1⟩ := b7' z2
  obtain ⟨_, _, s2⟩ := f7 z4
  have j7' : G6 12 = 0 ∧ G6 39 = nI (c + (brL K V t).1.length + (brL K V t).2.1.length + (brL K V t).2.2.length) ∧ A6 23 br = nI (c + (brL K V t).1.length + (brL K V t).2.1.length) ∧ A6 24 br = nI (c + (brL K V t).1.length + (brL K V t).2.1.length + (brL K V t).2.2.length) ∧ SegM A6 (c + (brL K V t).1.length + (brL K V t).2.1.length) (brL K V t).2.2 := j7 z6
  obtain ⟨y1, y2, y3, y4, s3⟩ := j7'
  have l5 := (q5 z5).2.2
  have a22 : A6 22 br = nI (c + (brL K V t).1.length) := by
    rw [j6 22 (by decide), f6 22 (by decide) (by decide) (by decide), ← hA4, vau_at, upd_at]
    exact (q3 z3).2.1
  have a21 : A6 21 br = nI c := by
    rw [j6 21 (by decide), f6 21 (by decide) (by decide) (by decide), ← hA4, vau_ne (by decide), b6 21 (by decide) (by decide) (by decide), ← hA2, vau_at, upd_at]
  have a20 : A6 20 br = 1 := by
    rw [j6 20 (by decide), f6 20 (by decide) (by decide) (by decide), ← hA4, vau_ne (by decide), b6 20 (by decide) (by decide) (by decide), ← hA2, vau_ne (by decide), ← hA1, vau_at, upd_at]
  exact ⟨by rw [p3 12 (by decide) (by decide) (by decide)]; exact y1, by rw [p3 39 (by decide) (by decide) (by decide)]; exact y2, by omega, ⟨a20, a21, a22, y3, y4⟩, s1.eq (fun j h1 h2 => W6.2.2.2 j (Or.inl h2)), s2.eq (fun j h1 h2 => X6.2.2.2 j (Or.inl h2)), s3⟩
theorem m_lst {s : Nat × Nat} {c br : Nat} {ob : Option Nat} {x1 x2 : Int32} {F : Nat → Int32} {A : Nat → Nat → Int32} (hcb : cb ≤ 420) (hsd : sd ≤ 1) (hK : TkK M K V) (hs : s.2 ≤ M) (hs2 : s.1 ≤ 2) (hp : MPo F PL s.1 s.2) (hk : MTk A M K V PL) (h39 : s.1 = 0 → F 12 = 0 ∧ F 39 = nI c ∧ c ≤ cb + s.2) (h33 : F 33 = nI br) (hbr : br < lb) (hlb : lb ≤ 260) (h19 : F 19 = nI sd) (hx : s.1 = 0 → x1 = rF (-1) ob ∧ ∀ b, ob = some b → b < 6) : ∃ F' A', fX12_tellLaw_b129 0 x1 x2 (mkM F A B) = some ((), mkM F' A' B) ∧ MPo F' PL (stp K 59 (exs K V s)).1 (stp K 59 (exs K V s)).2 ∧ MLy sd br c lb (cb + 402) F F' A A' ∧ ((stp K 59 (exs K V s)).1 = 0 → F' 12 = 0 ∧ F' 33 = nI (br + 1) ∧ F' 39 = nI (c + (exl K V s).length) ∧ (A' 20 br = 0 ∧ A' 23 br = nI c ∧ A' 24 br = nI (c + (exl K V s).length)) ∧ SegM A' c (exl K V s) ∧ A' 18 = lwM ob (6 * sd) x2 (A 18) ∧ A' 19 = lwM ob (6 * sd) (nI (br + 1)) (A 19)) := by
  have b260 : br < 260 := by omega
  obtain ⟨⟨m1, m2, m3⟩, m4⟩ := exs_ok hK (s := s) hs hs2
  obtain ⟨⟨l1, l2, l3⟩, l4⟩ := stp_ok hK (k := 59) (s := exs K V s) (by decide) m2 m3
  generalize hA1 : va_up A 20 (upd (A 20) br 0) = A1
  have r1 : MLw br c lb (cb + 402) F F A A1 := by rw [← hA1]; exact MLw.row (by decide) (by decide) hbr
  have k1 : MTk A1 M K V PL := by rw [← hA1]; exact hk.row (by decide)
  obtain ⟨G2, A2, j1, j2, j3, j4, j5, j6, j7⟩ := m_term (B := B) (lb := lb) hcb hK hs hs2 hp k1 h39 h33 hbr hlb
  obtain ⟨G3, p1, p2, p3⟩ := m_stp (B := B) hK (k := 59) m2 j2 j4 rfl (by decide)
  have p1' : fX12_must 0 4 (mkM G2 A2 B) = some ((), mkM G3 A2 B) := p1
  have U : MLw br c lb (cb + 402) F G3 A A2 := (r1.tr j3 (Nat.le_refl _) (Nat.le_refl _)).tr (MLw.own (fun k q _ _ _ => p3 k (by omega) (by omega) (by omega))) (Nat.le_refl _) (Nat.le_refl _)
  have g19 : G3 19 = nI sd := by rw [U.1 19 (by decide) (by decide) (by decide) (by decide)]; exact h19
  have g33 : G3 33 = nI (br + 1) := by rw [p3 33 (by decide) (by decide) (by decide)]; exact j5
  have g13 := p2.1
  by_cases z : (stp K 59 (exs K V s)).1 = 0
  · obtain ⟨z1, z2, _, _⟩ := l4 z
    obtain ⟨z3, z4, _, _⟩ := m4 z1
    obtain ⟨y1, y2, y3, y4, y5⟩ := j7 z1
    obtain ⟨ex, hob⟩ := hx z3
    have g13' : G3 13 = 0 := by rw [g13, z]; rfl
    have n0 : ¬ (0 : Int32) < 0 := by decide
    have a20 : A2 20 br = 0 := by rw [j6 20 (by decide), ← hA1, vau_at, upd_at]
    have A18 : A2 18 = A 18 := U.2.1 18 (by decide)
    have A19 : A2 19 = A 19 := U.2.1 19 (by decide)
    have f12 : G3 12 = 0 := by rw [p3 12 (by decide) (by decide) (by decide)]; exact y1
    have f39 : G3 39 = nI (c + (exl K V s).length) := by rw [p3 39 (by decide) (by decide) (by decide)]; exact y2
    cases ob with
    | none =>
      have ex' : x1 = -1 := ex
      have n1 : ¬ (0 : Int32) ≤ -1 := by decide
      refine ⟨G3, A2, ?_, p2, U.y, fun _ => ⟨f12, g33, f39, ⟨a20, y3, y4⟩, y5, A18, A19⟩⟩
      unfold fX12_tellLaw_b129
      simp -implicitDefEqProofs (disch := first | assumption | omega | decide | exact And.intro (by omega) (by omega)) only [mck, mg_0, mp_0, mr_1, mg_2, mp_2, mr_3, mg_4, mp_4, mr_5, mr_6, mr_7, mr_8, mr_9, mg_10, mp_10, mg_11, mp_11, mg_12, mp_12, mg_13, mp_13, mg_14, mp_14, mg_15, mp_15, mg_16, mp_16, mg_17, mp_17, mg_18, mp_18, mg_19, mp_19, mg_20, mp_20, mr_21, mr_22, mr_23, mr_24, mr_25, mr_26, mr_27, mr_28, mr_29, mr_30, mr_31, mr_32, mg_33, mp_33, mr_34, mr_35, mr_36, mr_37, mr_38, mg_39, mp_39, mr_40, mr_41, mr_42, mg_43, mp_43, mr_44, mr_45, mg_46, mp_46, mr_47, mr_48, mg_49, mp_49, mg_50, mp_50, mg_51, mp_51, mr_52, mr_53, mr_54, mg_55, mp_55, mr_56, mr_57, mg_58, mp_58, mg_59, mp_59, mg_60, mp_60, mr_61, mg_62, mp_62, mr_63, mr_64, mr_65, mr_66, mr_67, mr_68, ma_1, ms_1, ma_2, ms_2, ma_3, ms_3, ma_4, ms_4, ma_5, ms_5, ma_6, ms_6, ma_7, ms_7, ma_8, ms_8, ma_9, ms_9, ma_10, ms_10, ma_11, ms_11, ma_12, ms_12, ma_13, ms_13, ma_14, ms_14, ma_15, ms_15, ma_16, ms_16, ma_17, ms_17, ma_18, ms_18, ma_19, ms_19, ma_20, ms_20, ma_21, ms_21, ma_22, ms_22, ma_23, ms_23, ma_24, ms_24, ma_25, ms_25, ma_26, ms_26, ma_27, ms_27, ma_28, ms_28, ma_29, ms_29, ma_30, ms_30, ma_31, ms_31, ma_32, ms_32, ma_33, ms_33, ma_34, ms_34, ma_35, ms_35, ma_36, ms_36, ma_37, ms_37, ma_38, ms_38, ma_39, ms_39, ma_40, ms_40, ma_41, ms_41, ma_42, ms_42, ma_43, ms_43, if_true, if_false, Option.bind_some, cb_e, lt_e, nI_1, hs_nar2, nh4, upd_at, vau_at, ma_30_18, ms_30_18, ma_31_18, ms_31_18, ma_28_0, ms_28_0, ma_28_1, ms_28_1, ma_28_2, ms_28_2, ma_28_3, ms_28_3, ma_28_4, ms_28_4, ma_42_0, ms_42_0, ma_42_1, ms_42_1, ma_42_2, ms_42_2, ma_36_0, ms_36_0, h33, hA1, j1, p1', g13', if_neg n0, ex', if_neg n1]
    | some b =>
      have ex' : x1 = nI b := ex
      have b6 := hob b rfl
      have n1 : (0 : Int32) ≤ nI b := nI_le (a := 0) (by omega) (by omega)
      have k12 : 6 * sd + b < 12 := by omega
      refine ⟨G3, va_up (va_up A2 18 (upd (A2 18) (6 * sd + b) x2)) 19 (upd (A2 19) (6 * sd + b) (nI (br + 1))), ?_, p2, ⟨U.1, fun a q => by rw [vau_ne (by omega), vau_ne (by omega)]; exact U.2.1 a (by omega), fun a j q1 q2 q3 => by rw [vau_ne (by omega), vau_ne (by omega)]; exact U.2.2.1 a j q1 q2 q3, fun j q => by rw [vau_ne (by decide), vau_ne (by decide), vau_ne (by decide), vau_ne (by decide)]; exact U.2.2.2 j q, fun j q => ⟨by rw [vau_ne (by decide), vau_at, upd_ne (by omega), A18], by rw [vau_at, upd_ne (by omega), A19]⟩⟩, fun _ => ⟨f12, g33, f39, ⟨by rw [vau_ne (by decide), vau_ne (by decide)]; exact a20, by rw [vau_ne (by decide), vau_ne (by decide)]; exact y3, by rw [vau_ne (by decide), vau_ne (by decide)]; exact y4⟩, y5.eq (fun j _ _ => ⟨by rw [vau_ne (by decide), vau_ne (by decide)], by rw [vau_ne (by decide), vau_ne (by decide)]⟩), by rw [vau_ne (by decide), vau_at, A18]; rfl, by rw [vau_at, A19]; rfl⟩⟩
      unfold fX12_tellLaw_b129
      simp -implicitDefEqProofs (disch := first | assumption | omega | decide | exact And.intro (by omega) (by omega)) only [mck, mg_0, mp_0, mr_1, mg_2, mp_2, mr_3, mg_4, mp_4, mr_5, mr_6, mr_7, mr_8, mr_9, mg_10, mp_10, mg_11, mp_11, mg_12, mp_12, mg_13, mp_13, mg_14, mp_14, mg_15, mp_15, mg_16, mp_16, mg_17, mp_17, mg_18, mp_18, mg_19, mp_19, mg_20, mp_20, mr_21, mr_22, mr_23, mr_24, mr_25, mr_26, mr_27, mr_28, mr_29, mr_30, mr_31, mr_32, mg_33, mp_33, mr_34, mr_35, mr_36, mr_37, mr_38, mg_39, mp_39, mr_40, mr_41, mr_42, mg_43, mp_43, mr_44, mr_45, mg_46, mp_46, mr_47, mr_48, mg_49, mp_49, mg_50, mp_50, mg_51, mp_51, mr_52, mr_53, mr_54, mg_55, mp_55, mr_56, mr_57, mg_58, mp_58, mg_59, mp_59, mg_60, mp_60, mr_61, mg_62, mp_62, mr_63, mr_64, mr_65, mr_66, mr_67, mr_68, ma_1, ms_1, ma_2, ms_2, ma_3, ms_3, ma_4, ms_4, ma_5, ms_5, ma_6, ms_6, ma_7, ms_7, ma_8, ms_8, ma_9, ms_9, ma_10, ms_10, ma_11, ms_11, ma_12, ms_12, ma_13, ms_13, ma_14, ms_14, ma_15, ms_15, ma_16, ms_16, ma_17, ms_17, ma_18, ms_18, ma_19, ms_19, ma_20, ms_20, ma_21, ms_21, ma_22, ms_22, ma_23, ms_23, ma_24, ms_24, ma_25, ms_25, ma_26, ms_26, ma_27, ms_27, ma_28, ms_28, ma_29, ms_29, ma_30, ms_30, ma_31, ms_31, ma_32, ms_32, ma_33, ms_33, ma_34, ms_34, ma_35, ms_35, ma_36, ms_36, ma_37, ms_37, ma_38, ms_38, ma_39, ms_39, ma_40, ms_40, ma_41, ms_41, ma_42, ms_42, ma_43, ms_43, if_true, if_false, Option.bind_some, cb_e, lt_e, nI_1, hs_nar2, nh4, upd_at, vau_at, ma_30_18, ms_30_18, ma_31_18, ms_31_18, ma_28_0, ms_28_0, ma_28_1, ms_28_1, ma_28_2, ms_28_2, ma_28_3, ms_28_3, ma_28_4, ms_28_4, ma_42_0, ms_42_0, ma_42_1, ms_42_1, ma_42_2, ms_42_2, ma_36_0, ms_36_0, h33, hA1, j1, p1', g13', if_neg n0, ex', if_pos n1, g19, six_nI, g33, vau_ne]
  · have hz : 0 < G3 13 := by
      rw [g13]
      exact nI_lt (a := 0) (by omega) (by omega)
    refine ⟨G3, A2, ?_, p2, U.y, fun q => absurd q z⟩
    unfold fX12_tellLaw_b129
    simp -implicitDefEqProofs (disch := first | assumption | omega | decide | exact And.intro (by omega) (by omega)) only [mck, mg_0, mp_0, mr_1, mg_2, mp_2, mr_3, mg_4, mp_4, mr_5, mr_6, mr_7, mr_8, mr_9, mg_10, mp_10, mg_11, mp_11, mg_12, mp_12, mg_13, mp_13, mg_14, mp_14, mg_15, mp_15, mg_16, mp_16, mg_17, mp_17, mg_18, mp_18, mg_19, mp_19, mg_20, mp_20, mr_21, mr_22, mr_23, mr_24, mr_25, mr_26, mr_27, mr_28, mr_29, mr_30, mr_31, mr_32, mg_33, mp_33, mr_34, mr_35, mr_36, mr_37, mr_38, mg_39, mp_39, mr_40, mr_41, mr_42, mg_43, mp_43, mr_44, mr_45, mg_46, mp_46, mr_47, mr_48, mg_49, mp_49, mg_50, mp_50, mg_51, mp_51, mr_52, mr_53, mr_54, mg_55, mp_55, mr_56, mr_57, mg_58, mp_58, mg_59, mp_59, mg_60, mp_60, mr_61, mg_62, mp_62, mr_63, mr_64, mr_65, mr_66, mr_67, mr_68, ma_1, ms_1, ma_2, ms_2, ma_3, ms_3, ma_4, ms_4, ma_5, ms_5, ma_6, ms_6, ma_7, ms_7, ma_8, ms_8, ma_9, ms_9, ma_10, ms_10, ma_11, ms_11, ma_12, ms_12, ma_13, ms_13, ma_14, ms_14, ma_15, ms_15, ma_16, ms_16, ma_17, ms_17, ma_18, ms_18, ma_19, ms_19, ma_20, ms_20, ma_21, ms_21, ma_22, ms_22, ma_23, ms_23, ma_24, ms_24, ma_25, ms_25, ma_26, ms_26, ma_27, ms_27, ma_28, ms_28, ma_29, ms_29, ma_30, ms_30, ma_31, ms_31, ma_32, ms_32, ma_33, ms_33, ma_34, ms_34, ma_35, ms_35, ma_36, ms_36, ma_37, ms_37, ma_38, ms_38, ma_39, ms_39, ma_40, ms_40, ma_41, ms_41, ma_42, ms_42, ma_43, ms_43, if_true, if_false, Option.bind_some, cb_e, lt_e, nI_1, hs_nar2, nh4, upd_at, vau_at, ma_30_18, ms_30_18, ma_31_18, ms_31_18, ma_28_0, ms_28_0, ma_28_1, ms_28_1, ma_28_2, ms_28_2, ma_28_3, ms_28_3, ma_28_4, ms_28_4, ma_42_0, ms_42_0, ma_42_1, ms_42_1, ma_42_2, ms_42_2, ma_36_0, ms_36_0, h33, hA1, j1, p1', if_pos hz]
theorem m_law {ob : Option Nat} {x1 x2 : Int32} (hcb : cb ≤ 420) (hsd : sd ≤ 1) (hK : TkK M K V) (hlb : lb ≤ 260) (hx : x1 = rF (-1) ob ∧ ∀ b, ob = some b → b < 6) : ∀ k t c br fuel (F : Nat → Int32) (A : Nat → Nat → Int32), t ≤ M → k ≤ 4 → MPo F PL 0 t → MTk A M K V PL → F 12 = 0 → F 39 = nI c → c ≤ cb + t → F 33 = nI br → br + k + 2 ≤ lb → F 19 = nI sd → k + 1 < fuel → ∃ F' A', fX12_tellLaw_b12 fuel 0 x1 x2 (nI (4 - k)) (mkM F A B) = some ((), mkM F' A' B) ∧ MPo F' PL (lwS K V k t).1.1 (lwS K V k t).1.2 ∧ MLy sd br c lb (cb + 402) F F' A A' ∧ ((lwS K V k t).1.1 = 0 → F' 12 = 0 ∧ F' 33 = nI (br + (lwS K V k t).2.1.length + 1) ∧ F' 39 = nI (c + szL (lwS K V k t).2.1 (lwS K V k t).2.2) ∧ LayM A' (lwS K V k t).2.1 (lwS K V k t).2.2 br c ∧ A' 18 = lwM ob (6 * sd) x2 (A 18) ∧ A' 19 = lwM ob (6 * sd) (nI (br + (lwS K V k t).2.1.length + 1)) (A 19)) := by
  have hM := hK.1
  have lst : ∀ i t c br fuel (F : Nat → Int32) (A : Nat → Nat → Int32), t ≤ M → MPo F PL 0 t → MTk A M K V PL → F 12 = 0 → F 39 = nI c → c ≤ cb + t → F 33 = nI br → br < lb → F 19 = nI sd → ¬ K t = 8 → ∃ F' A', fX12_tellLaw_b12 (fuel + 1) 0 x1 x2 (nI i) (mkM F A B) = some ((), mkM F' A' B) ∧ MPo F' PL (ls2 K V t).1 (ls2 K V t).2 ∧ MLy sd br c lb (cb + 402) F F' A A' ∧ ((ls2 K V t).1 = 0 → F' 12 = 0 ∧ F' 33 = nI (br + ([] : List (List Op × List Op × List Op)).length + 1) ∧ F' 39 = nI (c + szL [] (exl K V (0, t))) ∧ LayM A' [] (exl K V (0, t)) br c ∧ A' 18 = lwM ob (6 * sd) x2 (A 18) ∧ A' 19 = lwM ob (6 * sd) (nI (br + ([] : List (List Op × List Op × List Op)).length + 1)) (A 19)) := by
    intro i t c br fuel F A ht hp hk h12 h39 hc h33 hbr h19 ne
    have f13 : F 13 = 0 := hp.1
    have is28 : fX12_is 0 28 (mkM F A B) = some (b2 (decide (K t = 8)), mkM F A B) := m_is (B := B) hK ht hp hk (k := 8) rfl
    rw [decide_eq_false ne] at is28
    obtain ⟨F', A', q1, q2, q3, q4⟩ := m_lst (B := B) (PL := PL) (x2 := x2) (s := (0, t)) hcb hsd hK ht (Nat.zero_le _) hp hk (fun _ => ⟨h12, h39, hc⟩) h33 hbr hlb h19 (fun _ => hx)
    refine ⟨F', A', ?_, q2, q3, fun z => ?_⟩
    · rw [fX12_tellLaw_b12]
      simp -implicitDefEqProofs (disch := first | assumption | omega | decide | exact And.intro (by omega) (by omega)) only [mck, mg_0, mp_0, mr_1, mg_2, mp_2, mr_3, mg_4, mp_4, mr_5, mr_6, mr_7, mr_8, mr_9, mg_10, mp_10, mg_11, mp_11, mg_12, mp_12, mg_13, mp_13, mg_14, mp_14, mg_15, mp_15, mg_16, mp_16, mg_17, mp_17, mg_18, mp_18, mg_19, mp_19, mg_20, mp_20, mr_21, mr_22, mr_23, mr_24, mr_25, mr_26, mr_27, mr_28, mr_29, mr_30, mr_31, mr_32, mg_33, mp_33, mr_34, mr_35, mr_36, mr_37, mr_38, mg_39, mp_39, mr_40, mr_41, mr_42, mg_43, mp_43, mr_44, mr_45, mg_46, mp_46, mr_47, mr_48, mg_49, mp_49, mg_50, mp_50, mg_51, mp_51, mr_52, mr_53, mr_54, mg_55, mp_55, mr_56, mr_57, mg_58, mp_58, mg_59, mp_59, mg_60, mp_60, mr_61, mg_62, mp_62, mr_63, mr_64, mr_65, mr_66, mr_67, mr_68, ma_1, ms_1, ma_2, ms_2, ma_3, ms_3, ma_4, ms_4, ma_5, ms_5, ma_6, ms_6, ma_7, ms_7, ma_8, ms_8, ma_9, ms_9, ma_10, ms_10, ma_11, ms_11, ma_12, ms_12, ma_13, ms_13, ma_14, ms_14, ma_15, ms_15, ma_16, ms_16, ma_17, ms_17, ma_18, ms_18, ma_19, ms_19, ma_20, ms_20, ma_21, ms_21, ma_22, ms_22, ma_23, ms_23, ma_24, ms_24, ma_25, ms_25, ma_26, ms_26, ma_27, ms_27, ma_28, ms_28, ma_29, ms_29, ma_30, ms_30, ma_31, ms_31, ma_32, ms_32, ma_33, ms_33, ma_34, ms_34, ma_35, ms_35, ma_36, ms_36, ma_37, ms_37, ma_38, ms_38, ma_39, ms_39, ma_40, ms_40, ma_41, ms_41, ma_42, ms_42, ma_43, ms_43, if_true, if_false, Option.bind_some, cb_e, lt_e, nI_1, hs_nar2, nh4, upd_at, vau_at, ma_30_18, ms_30_18, ma_31_18, ms_31_18, ma_28_0, ms_28_0, ma_28_1, ms_28_1, ma_28_2, ms_28_2, ma_28_3, ms_28_3, ma_28_4, ms_28_4, ma_42_0, ms_42_0, ma_42_1, ms_42_1, ma_42_2, ms_42_2, ma_36_0, ms_36_0, f13, is28, if_pos b2f]
      exact q1
    · obtain ⟨y1, y2, y3, y4, y5, y6, y7⟩ := q4 z
      exact ⟨y1, y2, y3, ⟨y4, y5⟩, y6, y7⟩
  intro k
  induction k with
  | zero =>
    intro t c br fuel F A ht hk4 hp hk h12 h39 hc h33 hbr h19 hf
    obtain ⟨fuel, rfl⟩ : ∃ q, fuel = q + 1 := ⟨fuel - 1, by omega⟩
    unfold lwS
    by_cases e8 : K t = 8
    · rw [if_pos e8]
      have n4' : nI (4 - 0) = (4 : Int32) := rfl
      have f13 : F 13 = 0 := hp.1
      have is28 : fX12_is 0 28 (mkM F A B) = some (b2 (decide (K t = 8)), mkM F A B) := m_is (B := B) hK ht hp hk (k := 8) rfl
      rw [decide_eq_true e8] at is28
      obtain ⟨F1, a1, a2, a3⟩ := m_fail (B := B) hK ht hp hk (n := 2) (by decide) (by decide)
      have a1' : fX12_fail 0 2 (mkM F A B) = some ((), mkM F1 A B) := a1
      have hz : ¬ F1 13 ≤ 0 := by rw [a2.1]; decide
      refine ⟨F1, A, ?_, a2, (MLw.own (fun k q _ _ _ => a3 k (by omega) (by omega))).y, fun z => absurd (show (2 : Nat) = 0 from z) (by decide)⟩
      rw [fX12_tellLaw_b12]
      unfold fX12_tellLaw_b38
      simp -implicitDefEqProofs (disch := first | assumption | omega | decide | exact And.intro (by omega) (by omega)) only [mck, mg_0, mp_0, mr_1, mg_2, mp_2, mr_3, mg_4, mp_4, mr_5, mr_6, mr_7, mr_8, mr_9, mg_10, mp_10, mg_11, mp_11, mg_12, mp_12, mg_13, mp_13, mg_14, mp_14, mg_15, mp_15, mg_16, mp_16, mg_17, mp_17, mg_18, mp_18, mg_19, mp_19, mg_20, mp_20, mr_21, mr_22, mr_23, mr_24, mr_25, mr_26, mr_27, mr_28, mr_29, mr_30, mr_31, mr_32, mg_33, mp_33, mr_34, mr_35, mr_36, mr_37, mr_38, mg_39, mp_39, mr_40, mr_41, mr_42, mg_43, mp_43, mr_44, mr_45, mg_46, mp_46, mr_47, mr_48, mg_49, mp_49, mg_50, mp_50, mg_51, mp_51, mr_52, mr_53, mr_54, mg_55, mp_55, mr_56, mr_57, mg_58, mp_58, mg_59, mp_59, mg_60, mp_60, mr_61, mg_62, mp_62, mr_63, mr_64, mr_65, mr_66, mr_67, mr_68, ma_1, ms_1, ma_2, ms_2, ma_3, ms_3, ma_4, ms_4, ma_5, ms_5, ma_6, ms_6, ma_7, ms_7, ma_8, ms_8, ma_9, ms_9, ma_10, ms_10, ma_11, ms_11, ma_12, ms_12, ma_13, ms_13, ma_14, ms_14, ma_15, ms_15, ma_16, ms_16, ma_17, ms_17, ma_18, ms_18, ma_19, ms_19, ma_20, ms_20, ma_21, ms_21, ma_22, ms_22, ma_23, ms_23, ma_24, ms_24, ma_25, ms_25, ma_26, ms_26, ma_27, ms_27, ma_28, ms_28, ma_29, ms_29, ma_30, ms_30, ma_31, ms_31, ma_32, ms_32, ma_33, ms_33, ma_34, ms_34, ma_35, ms_35, ma_36, ms_36, ma_37, ms_37, ma_38, ms_38, ma_39, ms_39, ma_40, ms_40, ma_41, ms_41, ma_42, ms_42, ma_43, ms_43, if_true, if_false, Option.bind_some, cb_e, lt_e, nI_1, hs_nar2, nh4, upd_at, vau_at, ma_30_18, ms_30_18, ma_31_18, ms_31_18, ma_28_0, ms_28_0, ma_28_1, ms_28_1, ma_28_2, ms_28_2, ma_28_3, ms_28_3, ma_28_4, ms_28_4, ma_42_0, ms_42_0, ma_42_1, ms_42_1, ma_42_2, ms_42_2, ma_36_0, ms_36_0, f13, is28, if_neg b2t, if_pos n4', a1', if_neg hz]
    · rw [if_neg e8]
      exact lst 4 t c br fuel F A ht hp hk h12 h39 hc h33 (by omega) h19 e8
  | succ k ih =>
    intro t c br fuel F A ht hk4 hp hk h12 h39 hc h33 hbr h19 hf
    obtain ⟨fuel, rfl⟩ : ∃ q, fuel = q + 1 := ⟨fuel - 1, by omega⟩
    unfold lwS
    by_cases e8 : K t = 8
    · rw [if_pos e8]
      obtain ⟨F1, A1, b1, b2, b3, b4, b5, b7⟩ := m_brn (B := B) (lb := lb) (x1 := x1) (x2 := x2) (fuel := fuel) (i := 4 - (k + 1)) hcb hK ht hp hk h12 h33 (by omega) hlb h39 hc e8 (by omega)
      have ei : 4 - (k + 1) + 1 = 4 - k := by omega
      rw [ei] at b1
      have m7 := (bs_ok hK ht).2.2.2.2.2.2.1
      have h19' : F1 19 = nI sd := by rw [b3.1 19 (by decide) (by decide) (by decide) (by decide)]; exact h19
      by_cases z : (bs7 K V t).1 = 0
      · rw [if_pos z]
        obtain ⟨g1, g2, g3, g4, g5, g6, g7⟩ := b7 z
        have b2' := b2
        rw [z] at b2'
        obtain ⟨F2, A2, i1, i2, i3, i4⟩ := ih (bs7 K V t).2 _ (br + 1) fuel F1 A1 m7.1 (by omega) b2' b4 g1 g2 g3 b5 (by omega) h19' (by omega)
        refine ⟨F2, A2, b1.trans i1, i2, b3.try i3 (by omega) (by omega), fun y => ?_⟩
        obtain ⟨y1, y2, y3, y4, y5, y6⟩ := i4 y
        have row : ∀ a, 20 ≤ a → a ≤ 24 → A2 a br = A1 a br := fun a h1 h2 => i3.2.2.1 a br h1 h2 (Or.inl (by omega))
        have len : br + 1 + (lwS K V k (bs7 K V t).2).2.1.length + 1 = br + (brL K V t :: (lwS K V k (bs7 K V t).2).2.1).length + 1 := by rw [List.length_cons]; omega
        refine ⟨y1, by rw [y2, len], ?_, ⟨⟨?_, ?_, ?_, ?_, ?_⟩, ⟨g5.eq (fun j _ h2 => i3.2.2.2.1 j (Or.inl (by omega))), g6.eq (fun j _ h2 => i3.2.2.2.1 j (Or.inl (by omega))), g7.eq (fun j _ h2 => i3.2.2.2.1 j (Or.inl (by omega)))⟩, y4⟩, ?_, ?_⟩
        · rw [y3]
          show _ = nI (c + ((brL K V t).1.length + (brL K V t).2.1.length + (brL K V t).2.2.length + szL (lwS K V k (bs7 K V t).2).2.1 (lwS K V k (bs7 K V t).2).2.2))
          congr 1
          omega
        · rw [row 20 (by decide) (by decide)]; exact g4.1
        · rw [row 21 (by decide) (by decide)]; exact g4.2.1
        · rw [row 22 (by decide) (by decide)]; exact g4.2.2.1
        · rw [row 23 (by decide) (by decide)]; exact g4.2.2.2.1
        · rw [row 24 (by decide) (by decide)]; exact g4.2.2.2.2
        · rw [y5, b3.2.1 18 (by decide)]
        · rw [y6, b3.2.1 19 (by decide), len]
      · rw [if_neg z]
        obtain ⟨fuel, rfl⟩ : ∃ q, fuel = q + 1 := ⟨fuel - 1, by omega⟩
        have hz : ¬ F1 13 = 0 := by rw [b2.1]; exact nI_ne0 (by omega) (by omega)
        obtain ⟨F', A', q1, q2, q3, q4⟩ := m_lst (B := B) (PL := PL) (lb := lb) (c := c) (ob := ob) (x1 := x1) (x2 := x2) (s := bs7 K V t) (br := br + 1) hcb hsd hK m7.1 m7.2 b2 b4 (fun q => absurd q z) b5 (by omega) hlb h19' (fun q => absurd q z)
        rw [exs_F z, stp_F z] at q2
        have st : fX12_tellLaw_b12 (fuel + 1) 0 x1 x2 (nI (4 - k)) (mkM F1 A1 B) = fX12_tellLaw_b129 0 x1 x2 (mkM F1 A1 B) := by
          rw [fX12_tellLaw_b12]
          simp -implicitDefEqProofs (disch := first | assumption | omega | decide | exact And.intro (by omega) (by omega)) only [mck, mg_0, mp_0, mr_1, mg_2, mp_2, mr_3, mg_4, mp_4, mr_5, mr_6, mr_7, mr_8, mr_9, mg_10, mp_10, mg_11, mp_11, mg_12, mp_12, mg_13, mp_13, mg_14, mp_14, mg_15, mp_15, mg_16, mp_16, mg_17, mp_17, mg_18, mp_18, mg_19, mp_19, mg_20, mp_20, mr_21, mr_22, mr_23, mr_24, mr_25, mr_26, mr_27, mr_28, mr_29, mr_30, mr_31, mr_32, mg_33, mp_33, mr_34, mr_35, mr_36, mr_37, mr_38, mg_39, mp_39, mr_40, mr_41, mr_42, mg_43, mp_43, mr_44, mr_45, mg_46, mp_46, mr_47, mr_48, mg_49, mp_49, mg_50, mp_50, mg_51, mp_51, mr_52, mr_53, mr_54, mg_55, mp_55, mr_56, mr_57, mg_58, mp_58, mg_59, mp_59, mg_60, mp_60, mr_61, mg_62, mp_62, mr_63, mr_64, mr_65, mr_66, mr_67, mr_68, ma_1, ms_1, ma_2, ms_2, ma_3, ms_3, ma_4, ms_4, ma_5, ms_5, ma_6, ms_6, ma_7, ms_7, ma_8, ms_8, ma_9, ms_9, ma_10, ms_10, ma_11, ms_11, ma_12, ms_12, ma_13, ms_13, ma_14, ms_14, ma_15, ms_15, ma_16, ms_16, ma_17, ms_17, ma_18, ms_18, ma_19, ms_19, ma_20, ms_20, ma_21, ms_21, ma_22, ms_22, ma_23, ms_23, ma_24, ms_24, ma_25, ms_25, ma_26, ms_26, ma_27, ms_27, ma_28, ms_28, ma_29, ms_29, ma_30, ms_30, ma_31, ms_31, ma_32, ms_32, ma_33, ms_33, ma_34, ms_34, ma_35, ms_35, ma_36, ms_36, ma_37, ms_37, ma_38, ms_38, ma_39, ms_39, ma_40, ms_40, ma_41, ms_41, ma_42, ms_42, ma_43, ms_43, if_true, if_false, Option.bind_some, cb_e, lt_e, nI_1, hs_nar2, nh4, upd_at, vau_at, ma_30_18, ms_30_18, ma_31_18, ms_31_18, ma_28_0, ms_28_0, ma_28_1, ms_28_1, ma_28_2, ms_28_2, ma_28_3, ms_28_3, ma_28_4, ms_28_4, ma_42_0, ms_42_0, ma_42_1, ms_42_1, ma_42_2, ms_42_2, ma_36_0, ms_36_0, if_neg hz]
        exact ⟨F', A', b1.trans (st.trans q1), q2, b3.try q3 (by omega) (Nat.le_refl _), fun y => absurd y z⟩
    · rw [if_neg e8]
      exact lst (4 - (k + 1)) t c br fuel F A ht hp hk h12 h39 hc h33 (by omega) h19 e8
end M9c
