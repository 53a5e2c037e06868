/-! ===== the model reads terms: its signs that wait ===== -/
def MPo (F : Nat → Int32) (PL : Nat → Nat) (fa t : Nat) : Prop := F 13 = nI fa ∧ (∃ x, x ≤ 400 ∧ F 11 = nI x ∧ (fa = 0 → x = t)) ∧ (¬ fa = 0 → F 14 = nI (PL t)) ∧ fa ≤ 2
def MTk (A : Nat → Nat → Int32) (M : Nat) (K V PL : Nat → Nat) : Prop := ∀ j, j ≤ M → A 3 j = nI (mkk (K j)) ∧ A 4 j = nI (PL j) ∧ (K j = 17 → A 5 j = nI (V j))
theorem MPo.eq {F F' : Nat → Int32} {PL : Nat → Nat} {fa t : Nat} (h : MPo F PL fa t) (e1 : F' 11 = F 11) (e2 : F' 13 = F 13) (e3 : F' 14 = F 14) : MPo F' PL fa t := by
  unfold MPo at *
  rw [e1, e2, e3]
  exact h
/-- a row of waiting signs, the last one first -/
def WA (g : Nat → Int32) : List Nat → Prop
  | [] => True
  | k :: W => (g W.length = nI k ∧ k < 36) ∧ WA g W
theorem WA.up {g : Nat → Int32} {i : Nat} {y : Int32} : ∀ {W : List Nat}, WA g W → W.length ≤ i → WA (upd g i y) W
  | [], _, _ => trivial
  | k :: W, h, hk => by
    rw [List.length_cons] at hk
    exact ⟨⟨by rw [upd_ne (by omega)]; exact h.1.1, h.1.2⟩, WA.up h.2 (by omega)⟩
def opM (k : Nat) : Op := (if k = 8 then 2 else if k = 9 then 3 else if k = 10 then 4 else 5, 0)
def pop1 (x k : Nat) : Bool := !(decide (k = 6)) && !(decide (x = 1) && (decide (k = 8) || decide (k = 9)))
def cT (x : Nat) : List Nat → List Nat
  | [] => []
  | k :: W => if pop1 x k then k :: cT x W else []
def cR (x : Nat) : List Nat → List Nat
  | [] => []
  | k :: W => if pop1 x k then cR x W else k :: W
theorem cTR (x : Nat) : ∀ W, (cT x W).length + (cR x W).length = W.length
  | [] => rfl
  | k :: W => by
    rw [cT, cR]
    by_cases c : pop1 x k = true
    · rw [if_pos c, if_pos c, List.length_cons, List.length_cons]
      have := cTR x W
      omega
    · rw [if_neg c, if_neg c]
      show 0 + _ = _
      omega
/-- frame of the model's term reading: fields 11 to 14, 39, 43, rows 25 to 27; the code below c lasts -/
def MTr (c lim : Nat) (F F' : Nat → Int32) (A A' : Nat → Nat → Int32) : Prop := (∀ k, ¬ k = 11 → ¬ k = 12 → ¬ k = 13 → ¬ k = 14 → ¬ k = 39 → ¬ k = 43 → F' k = F k) ∧ (∀ a, ¬ a = 25 → ¬ a = 26 → ¬ a = 27 → A' a = A a) ∧ (∀ j, j < c ∨ lim ≤ j → A' 25 j = A 25 j ∧ A' 26 j = A 26 j) ∧ ∃ c', F' 39 = nI c' ∧ c ≤ c' ∧ c' ≤ lim
theorem MTr.tr {c c1 lim : Nat} {F F1 F2 : Nat → Int32} {A A1 A2 : Nat → Nat → Int32} (h : MTr c lim F F1 A A1) (g : MTr c1 lim F1 F2 A1 A2) (hc : c ≤ c1) : MTr c lim F F2 A A2 := by
  obtain ⟨h1, h2, h3, h4⟩ := h
  obtain ⟨g1, g2, g3, c', g4, g5, g6⟩ := g
  exact ⟨fun k q1 q2 q3 q4 q5 q6 => (g1 k q1 q2 q3 q4 q5 q6).trans (h1 k q1 q2 q3 q4 q5 q6), fun a q1 q2 q3 => (g2 a q1 q2 q3).trans (h2 a q1 q2 q3), fun j hj => ⟨(g3 j (by omega)).1.trans (h3 j hj).1, (g3 j (by omega)).2.trans (h3 j hj).2⟩, c', g4, by omega, g6⟩
theorem MTr.rf {c lim : Nat} {F : Nat → Int32} {A : Nat → Nat → Int32} (h : F 39 = nI c) (hc : c ≤ lim) : MTr c lim F F A A := ⟨fun _ _ _ _ _ _ _ => rfl, fun _ _ _ _ => rfl, fun _ _ => ⟨rfl, rfl⟩, c, h, Nat.le_refl _, hc⟩
theorem MTk.tr {c lim M : Nat} {F F' : Nat → Int32} {A A' : Nat → Nat → Int32} {K V PL : Nat → Nat} (h : MTk A M K V PL) (g : MTr c lim F F' A A') : MTk A' M K V PL := by
  unfold MTk at *
  rw [g.2.1 3 (by decide) (by decide) (by decide), g.2.1 4 (by decide) (by decide) (by decide), g.2.1 5 (by decide) (by decide) (by decide)]
  exact h
section CO
variable {B : Nat → Nat → Int64} {lim : Nat}
theorem m_emit {F : Nat → Int32} {A : Nat → Nat → Int32} {c : Nat} (hl : lim ≤ 840) (hc : F 39 = nI c) (hc2 : c < lim) (k v : Int32) : ∃ F' A', fX12_emit 0 k v (mkM F A B) = some ((), mkM F' A' B) ∧ (∀ x, ¬ x = 39 → F' x = F x) ∧ F' 39 = nI (c + 1) ∧ A' 25 = upd (A 25) c k ∧ A' 26 = upd (A 26) c v ∧ (∀ a, ¬ a = 25 → ¬ a = 26 → A' a = A a) ∧ MTr c lim F F' A A' := by
  have h840 : c < 840 := by omega
  unfold fX12_emit
  simp -implicitDefEqProofs (disch := first | assumption | omega | decide | exact And.intro (by omega) (by omega)) only [mck, mg_0, mp_0, mr_1, mg_2, mp_2, mr_3, mg_4, mp_4, mr_5, mr_6, mr_7, mr_8, mr_9, mg_10, mp_10, mg_11, mp_11, mg_12, mp_12, mg_13, mp_13, mg_14, mp_14, mg_15, mp_15, mg_16, mp_16, mg_17, mp_17, mg_18, mp_18, mg_19, mp_19, mg_20, mp_20, mr_21, mr_22, mr_23, mr_24, mr_25, mr_26, mr_27, mr_28, mr_29, mr_30, mr_31, mr_32, mg_33, mp_33, mr_34, mr_35, mr_36, mr_37, mr_38, mg_39, mp_39, mr_40, mr_41, mr_42, mg_43, mp_43, mr_44, mr_45, mg_46, mp_46, mr_47, mr_48, mg_49, mp_49, mg_50, mp_50, mg_51, mp_51, mr_52, mr_53, mr_54, mg_55, mp_55, mr_56, mr_57, mg_58, mp_58, mg_59, mp_59, mg_60, mp_60, mr_61, mg_62, mp_62, mr_63, mr_64, mr_65, mr_66, mr_67, mr_68, ma_1, ms_1, ma_2, ms_2, ma_3, ms_3, ma_4, ms_4, ma_5, ms_5, ma_6, ms_6, ma_7, ms_7, ma_8, ms_8, ma_9, ms_9, ma_10, ms_10, ma_11, ms_11, ma_12, ms_12, ma_13, ms_13, ma_14, ms_14, ma_15, ms_15, ma_16, ms_16, ma_17, ms_17, ma_18, ms_18, ma_19, ms_19, ma_20, ms_20, ma_21, ms_21, ma_22, ms_22, ma_23, ms_23, ma_24, ms_24, ma_25, ms_25, ma_26, ms_26, ma_27, ms_27, ma_28, ms_28, ma_29, ms_29, ma_30, ms_30, ma_31, ms_31, ma_32, ms_32, ma_33, ms_33, ma_34, ms_34, ma_35, ms_35, ma_36, ms_36, ma_37, ms_37, ma_38, ms_38, ma_39, ms_39, ma_40, ms_40, ma_41, ms_41, ma_42, ms_42, ma_43, ms_43, if_true, if_false, Option.bind_some, cb_e, lt_e, nI_1, hs_nar2, nh4, upd_at, vau_at, ma_30_18, ms_30_18, ma_31_18, ms_31_18, ma_28_0, ms_28_0, ma_28_1, ms_28_1, ma_28_2, ms_28_2, ma_28_3, ms_28_3, ma_28_4, ms_28_4, ma_42_0, ms_42_0, ma_42_1, ms_42_1, ma_42_2, ms_42_2, ma_36_0, ms_36_0, hc, vau_ne]
  refine ⟨upd F 39 (nI (c + 1)), va_up (va_up A 25 (upd (A 25) c k)) 26 (upd (A 26) c v), rfl, fun x hx => upd_ne hx, upd_at _ _ _, by rw [vau_ne (by decide), vau_at], by rw [vau_at], fun a q1 q2 => by rw [vau_ne q2, vau_ne q1], fun x _ _ _ _ q _ => upd_ne q, fun a q1 q2 _ => by rw [vau_ne q2, vau_ne q1], fun j hj => ⟨by rw [vau_ne (by decide), vau_at, upd_ne (by omega)], by rw [vau_at, upd_ne (by omega)]⟩, c + 1, upd_at _ _ _, by omega, by omega⟩
theorem m_comes_go {x : Nat} (hx : x ≤ 1) (hl : lim ≤ 840) : ∀ (W : List Nat) (c fuel : Nat) (F : Nat → Int32) (A : Nat → Nat → Int32), F 43 = nI W.length → WA (A 27) W → F 39 = nI c → c + W.length ≤ lim → W.length ≤ 60 → W.length < fuel → ∃ F' A', fX12_comesOut_b0 fuel 0 (nI x) (mkM F A B) = some ((), mkM F' A' B) ∧ (∀ k, ¬ k = 39 → ¬ k = 43 → F' k = F k) ∧ F' 43 = nI (cR x W).length ∧ F' 39 = nI (c + (cT x W).length) ∧ SegM A' c ((cT x W).map opM) ∧ (∀ a, ¬ a = 25 → ¬ a = 26 → A' a = A a) ∧ WA (A' 27) (cR x W) ∧ MTr c lim F F' A A'
  | [], c, fuel, F, A, h1, h2, h3, h4, h5, h6 => by
    obtain ⟨fuel, rfl⟩ : ∃ q, fuel = q + 1 := ⟨fuel - 1, by omega⟩
    have h1' : F 43 = 0 := h1
    rw [fX12_comesOut_b0]
    simp -implicitDefEqProofs (disch := first | assumption | omega | decide | exact And.intro (by omega) (by omega)) only [mck, mg_0, mp_0, mr_1, mg_2, mp_2, mr_3, mg_4, mp_4, mr_5, mr_6, mr_7, mr_8, mr_9, mg_10, mp_10, mg_11, mp_11, mg_12, mp_12, mg_13, mp_13, mg_14, mp_14, mg_15, mp_15, mg_16, mp_16, mg_17, mp_17, mg_18, mp_18, mg_19, mp_19, mg_20, mp_20, mr_21, mr_22, mr_23, mr_24, mr_25, mr_26, mr_27, mr_28, mr_29, mr_30, mr_31, mr_32, mg_33, mp_33, mr_34, mr_35, mr_36, mr_37, mr_38, mg_39, mp_39, mr_40, mr_41, mr_42, mg_43, mp_43, mr_44, mr_45, mg_46, mp_46, mr_47, mr_48, mg_49, mp_49, mg_50, mp_50, mg_51, mp_51, mr_52, mr_53, mr_54, mg_55, mp_55, mr_56, mr_57, mg_58, mp_58, mg_59, mp_59, mg_60, mp_60, mr_61, mg_62, mp_62, mr_63, mr_64, mr_65, mr_66, mr_67, mr_68, ma_1, ms_1, ma_2, ms_2, ma_3, ms_3, ma_4, ms_4, ma_5, ms_5, ma_6, ms_6, ma_7, ms_7, ma_8, ms_8, ma_9, ms_9, ma_10, ms_10, ma_11, ms_11, ma_12, ms_12, ma_13, ms_13, ma_14, ms_14, ma_15, ms_15, ma_16, ms_16, ma_17, ms_17, ma_18, ms_18, ma_19, ms_19, ma_20, ms_20, ma_21, ms_21, ma_22, ms_22, ma_23, ms_23, ma_24, ms_24, ma_25, ms_25, ma_26, ms_26, ma_27, ms_27, ma_28, ms_28, ma_29, ms_29, ma_30, ms_30, ma_31, ms_31, ma_32, ms_32, ma_33, ms_33, ma_34, ms_34, ma_35, ms_35, ma_36, ms_36, ma_37, ms_37, ma_38, ms_38, ma_39, ms_39, ma_40, ms_40, ma_41, ms_41, ma_42, ms_42, ma_43, ms_43, if_true, if_false, Option.bind_some, cb_e, lt_e, nI_1, hs_nar2, nh4, upd_at, vau_at, ma_30_18, ms_30_18, ma_31_18, ms_31_18, ma_28_0, ms_28_0, ma_28_1, ms_28_1, ma_28_2, ms_28_2, ma_28_3, ms_28_3, ma_28_4, ms_28_4, ma_42_0, ms_42_0, ma_42_1, ms_42_1, ma_42_2, ms_42_2, ma_36_0, ms_36_0, h1']
    rw [if_pos (by decide)]
    exact ⟨F, A, rfl, fun _ _ _ => rfl, h1, h3, trivial, fun _ _ _ => rfl, trivial, MTr.rf h3 (by omega)⟩
  | k :: W, c, fuel, F, A, h1, h2, h3, h4, h5, h6 => by
    obtain ⟨fuel, rfl⟩ : ∃ q, fuel = q + 1 := ⟨fuel - 1, by omega⟩
    rw [List.length_cons] at h1 h4 h5 h6
    obtain ⟨⟨w1, w2⟩, w3⟩ := h2
    have e1 : nI (W.length + 1) - 1 = nI W.length := nI_pred _
    have l64 : W.length < 64 := by omega
    have keq : ∀ z : Nat, z < 256 → (nI k = nI z ↔ k = z) := fun z hz => nI_eq (by omega) (by omega)
    have ng : ∀ z : Nat, z < 256 → ¬ k = z → ¬ nI k = nI z := fun z hz q w => q ((keq z hz).1 w)
    have stop : pop1 x k = false → cT x (k :: W) = [] ∧ cR x (k :: W) = k :: W := fun q => by
      rw [cT, cR, q]
      exact ⟨rfl, rfl⟩
    have fin0 : pop1 x k = false → ∃ F' A', (some ((), mkM F A B) : Option (Unit × Sto)) = some ((), mkM F' A' B) ∧ (∀ k, ¬ k = 39 → ¬ k = 43 → F' k = F k) ∧ F' 43 = nI (cR x (k :: W)).length ∧ F' 39 = nI (c + (cT x (k :: W)).length) ∧ SegM A' c ((cT x (k :: W)).map opM) ∧ (∀ a, ¬ a = 25 → ¬ a = 26 → A' a = A a) ∧ WA (A' 27) (cR x (k :: W)) ∧ MTr c lim F F' A A' := fun q => by
      rw [(stop q).1, (stop q).2]
      exact ⟨F, A, rfl, fun _ _ _ => rfl, h1, h3, trivial, fun _ _ _ => rfl, ⟨⟨w1, w2⟩, w3⟩, MTr.rf h3 (by omega)⟩
    have b42 : pop1 x k = true → ∃ F' A', fX12_comesOut_b42 (fX12_comesOut_b0 fuel) 0 (nI x) (nI k) (mkM F A B) = some ((), mkM F' A' B) ∧ (∀ k, ¬ k = 39 → ¬ k = 43 → F' k = F k) ∧ F' 43 = nI (cR x (k :: W)).length ∧ F' 39 = nI (c + (cT x (k :: W)).length) ∧ SegM A' c ((cT x (k :: W)).map opM) ∧ (∀ a, ¬ a = 25 → ¬ a = 26 → A' a = A a) ∧ WA (A' 27) (cR x (k :: W)) ∧ MTr c lim F F' A A' := by
      intro hp
      rw [cT, cR, if_pos hp, if_pos hp]
      obtain ⟨F1, A1, z1, z2, z3, z4, z5, z6, z7⟩ := m_emit (B := B) (F := upd F 43 (nI W.length)) (A := A) (lim := lim) hl (by rw [upd_ne (by decide)]; exact h3) (by omega) (nI (opM k).1) 0
      obtain ⟨F2, A2, i1, i2, i3, i4, i5, i6, i7, i8⟩ := m_comes_go hx hl W (c + 1) fuel F1 A1 (by rw [z2 43 (by decide), upd_at]) (by rw [z6 27 (by decide) (by decide)]; exact w3) z3 (by omega) (by omega) (by omega)
      have b84 : fX12_comesOut_b84 (fX12_comesOut_b0 fuel) 0 (nI x) 0 (nI (opM k).1) (mkM (upd F 43 (nI W.length)) A B) = some ((), mkM F2 A2 B) := by
        unfold fX12_comesOut_b84
        simp -implicitDefEqProofs (disch := first | assumption | omega | decide | exact And.intro (by omega) (by omega)) only [mck, mg_0, mp_0, mr_1, mg_2, mp_2, mr_3, mg_4, mp_4, mr_5, mr_6, mr_7, mr_8, mr_9, mg_10, mp_10, mg_11, mp_11, mg_12, mp_12, mg_13, mp_13, mg_14, mp_14, mg_15, mp_15, mg_16, mp_16, mg_17, mp_17, mg_18, mp_18, mg_19, mp_19, mg_20, mp_20, mr_21, mr_22, mr_23, mr_24, mr_25, mr_26, mr_27, mr_28, mr_29, mr_30, mr_31, mr_32, mg_33, mp_33, mr_34, mr_35, mr_36, mr_37, mr_38, mg_39, mp_39, mr_40, mr_41, mr_42, mg_43, mp_43, mr_44, mr_45, mg_46, mp_46, mr_47, mr_48, mg_49, mp_49, mg_50, mp_50, mg_51, mp_51, mr_52, mr_53, mr_54, mg_55, mp_55, mr_56, mr_57, mg_58, mp_58, mg_59, mp_59, mg_60, mp_60, mr_61, mg_62, mp_62, mr_63, mr_64, mr_65, mr_66, mr_67, mr_68, ma_1, ms_1, ma_2, ms_2, ma_3, ms_3, ma_4, ms_4, ma_5, ms_5, ma_6, ms_6, ma_7, ms_7, ma_8, ms_8, ma_9, ms_9, ma_10, ms_10, ma_11, ms_11, ma_12, ms_12, ma_13, ms_13, ma_14, ms_14, ma_15, ms_15, ma_16, ms_16, ma_17, ms_17, ma_18, ms_18, ma_19, ms_19, ma_20, ms_20, ma_21, ms_21, ma_22, ms_22, ma_23, ms_23, ma_24, ms_24, ma_25, ms_25, ma_26, ms_26, ma_27, ms_27, ma_28, ms_28, ma_29, ms_29, ma_30, ms_30, ma_31, ms_31, ma_32, ms_32, ma_33, ms_33, ma_34, ms_34, ma_35, ms_35, ma_36, ms_36, ma_37, ms_37, ma_38, ms_38, ma_39, ms_39, ma_40, ms_40, ma_41, ms_41, ma_42, ms_42, ma_43, ms_43, if_true, if_false, Option.bind_some, cb_e, lt_e, nI_1, hs_nar2, nh4, upd_at, vau_at, ma_30_18, ms_30_18, ma_31_18, ms_31_18, ma_28_0, ms_28_0, ma_28_1, ms_28_1, ma_28_2, ms_28_2, ma_28_3, ms_28_3, ma_28_4, ms_28_4, ma_42_0, ms_42_0, ma_42_1, ms_42_1, ma_42_2, ms_42_2, ma_36_0, ms_36_0, z1]
        exact i1
      refine ⟨F2, A2, ?_, fun q q1 q2 => by rw [i2 q q1 q2, z2 q q1, upd_ne q2], i3, ?_, ?_, fun a q1 q2 => by rw [i6 a q1 q2, z6 a q1 q2], i7, ?_⟩
      · unfold fX12_comesOut_b42
        simp -implicitDefEqProofs (disch := first | assumption | omega | decide | exact And.intro (by omega) (by omega)) only [mck, mg_0, mp_0, mr_1, mg_2, mp_2, mr_3, mg_4, mp_4, mr_5, mr_6, mr_7, mr_8, mr_9, mg_10, mp_10, mg_11, mp_11, mg_12, mp_12, mg_13, mp_13, mg_14, mp_14, mg_15, mp_15, mg_16, mp_16, mg_17, mp_17, mg_18, mp_18, mg_19, mp_19, mg_20, mp_20, mr_21, mr_22, mr_23, mr_24, mr_25, mr_26, mr_27, mr_28, mr_29, mr_30, mr_31, mr_32, mg_33, mp_33, mr_34, mr_35, mr_36, mr_37, mr_38, mg_39, mp_39, mr_40, mr_41, mr_42, mg_43, mp_43, mr_44, mr_45, mg_46, mp_46, mr_47, mr_48, mg_49, mp_49, mg_50, mp_50, mg_51, mp_51, mr_52, mr_53, mr_54, mg_55, mp_55, mr_56, mr_57, mg_58, mp_58, mg_59, mp_59, mg_60, mp_60, mr_61, mg_62, mp_62, mr_63, mr_64, mr_65, mr_66, mr_67, mr_68, ma_1, ms_1, ma_2, ms_2, ma_3, ms_3, ma_4, ms_4, ma_5, ms_5, ma_6, ms_6, ma_7, ms_7, ma_8, ms_8, ma_9, ms_9, ma_10, ms_10, ma_11, ms_11, ma_12, ms_12, ma_13, ms_13, ma_14, ms_14, ma_15, ms_15, ma_16, ms_16, ma_17, ms_17, ma_18, ms_18, ma_19, ms_19, ma_20, ms_20, ma_21, ms_21, ma_22, ms_22, ma_23, ms_23, ma_24, ms_24, ma_25, ms_25, ma_26, ms_26, ma_27, ms_27, ma_28, ms_28, ma_29, ms_29, ma_30, ms_30, ma_31, ms_31, ma_32, ms_32, ma_33, ms_33, ma_34, ms_34, ma_35, ms_35, ma_36, ms_36, ma_37, ms_37, ma_38, ms_38, ma_39, ms_39, ma_40, ms_40, ma_41, ms_41, ma_42, ms_42, ma_43, ms_43, if_true, if_false, Option.bind_some, cb_e, lt_e, nI_1, hs_nar2, nh4, upd_at, vau_at, ma_30_18, ms_30_18, ma_31_18, ms_31_18, ma_28_0, ms_28_0, ma_28_1, ms_28_1, ma_28_2, ms_28_2, ma_28_3, ms_28_3, ma_28_4, ms_28_4, ma_42_0, ms_42_0, ma_42_1, ms_42_1, ma_42_2, ms_42_2, ma_36_0, ms_36_0, h1, e1]
        unfold opM at b84
        by_cases k8 : k = 8
        · rw [if_pos (show nI k = (8 : Int32) from (keq 8 (by decide)).2 k8)]
          rw [if_pos k8] at b84
          exact b84
        rw [if_neg (show ¬ nI k = (8 : Int32) from ng 8 (by decide) k8)]
        rw [if_neg k8] at b84
        by_cases k9 : k = 9
        · rw [if_pos (show nI k = (9 : Int32) from (keq 9 (by decide)).2 k9)]
          rw [if_pos k9] at b84
          exact b84
        rw [if_neg (show ¬ nI k = (9 : Int32) from ng 9 (by decide) k9)]
        rw [if_neg k9] at b84
        by_cases k10 : k = 10
        · rw [if_pos (show nI k = (10 : Int32) from (keq 10 (by decide)).2 k10)]
          rw [if_pos k10] at b84
          exact b84
        rw [if_neg (show ¬ nI k = (10 : Int32) from ng 10 (by decide) k10)]
        rw [if_neg k10] at b84
        exact b84
      · rw [i4, List.length_cons]
        congr 1
        omega
      · rw [List.map_cons]
        refine ⟨⟨?_, ?_⟩, i5⟩
        · rw [(i8.2.2.1 c (by omega)).1, z4, upd_at]
        · rw [(i8.2.2.1 c (by omega)).2, z5, upd_at]
          rfl
      · obtain ⟨m1, m2, m3, c', m4, m5, m6⟩ := i8
        refine ⟨fun q q1 q2 q3 q4 q5 q6 => by rw [m1 q q1 q2 q3 q4 q5 q6, z2 q q5, upd_ne q6], fun a q1 q2 q3 => by rw [m2 a q1 q2 q3, z6 a q1 q2], fun j hj => ?_, c', m4, by omega, m6⟩
        rw [(m3 j (by omega)).1, (m3 j (by omega)).2]
        exact z7.2.2.1 j hj
    rw [fX12_comesOut_b0]
    simp -implicitDefEqProofs (disch := first | assumption | omega | decide | exact And.intro (by omega) (by omega)) only [mck, mg_0, mp_0, mr_1, mg_2, mp_2, mr_3, mg_4, mp_4, mr_5, mr_6, mr_7, mr_8, mr_9, mg_10, mp_10, mg_11, mp_11, mg_12, mp_12, mg_13, mp_13, mg_14, mp_14, mg_15, mp_15, mg_16, mp_16, mg_17, mp_17, mg_18, mp_18, mg_19, mp_19, mg_20, mp_20, mr_21, mr_22, mr_23, mr_24, mr_25, mr_26, mr_27, mr_28, mr_29, mr_30, mr_31, mr_32, mg_33, mp_33, mr_34, mr_35, mr_36, mr_37, mr_38, mg_39, mp_39, mr_40, mr_41, mr_42, mg_43, mp_43, mr_44, mr_45, mg_46, mp_46, mr_47, mr_48, mg_49, mp_49, mg_50, mp_50, mg_51, mp_51, mr_52, mr_53, mr_54, mg_55, mp_55, mr_56, mr_57, mg_58, mp_58, mg_59, mp_59, mg_60, mp_60, mr_61, mg_62, mp_62, mr_63, mr_64, mr_65, mr_66, mr_67, mr_68, ma_1, ms_1, ma_2, ms_2, ma_3, ms_3, ma_4, ms_4, ma_5, ms_5, ma_6, ms_6, ma_7, ms_7, ma_8, ms_8, ma_9, ms_9, ma_10, ms_10, ma_11, ms_11, ma_12, ms_12, ma_13, ms_13, ma_14, ms_14, ma_15, ms_15, ma_16, ms_16, ma_17, ms_17, ma_18, ms_18, ma_19, ms_19, ma_20, ms_20, ma_21, ms_21, ma_22, ms_22, ma_23, ms_23, ma_24, ms_24, ma_25, ms_25, ma_26, ms_26, ma_27, ms_27, ma_28, ms_28, ma_29, ms_29, ma_30, ms_30, ma_31, ms_31, ma_32, ms_32, ma_33, ms_33, ma_34, ms_34, ma_35, ms_35, ma_36, ms_36, ma_37, ms_37, ma_38, ms_38, ma_39, ms_39, ma_40, ms_40, ma_41, ms_41, ma_42, ms_42, ma_43, ms_43, if_true, if_false, Option.bind_some, cb_e, lt_e, nI_1, hs_nar2, nh4, upd_at, vau_at, ma_30_18, ms_30_18, ma_31_18, ms_31_18, ma_28_0, ms_28_0, ma_28_1, ms_28_1, ma_28_2, ms_28_2, ma_28_3, ms_28_3, ma_28_4, ms_28_4, ma_42_0, ms_42_0, ma_42_1, ms_42_1, ma_42_2, ms_42_2, ma_36_0, ms_36_0, h1]
    rw [if_neg (nI_nle (by omega) (by omega))]
    simp -implicitDefEqProofs (disch := first | assumption | omega | decide | exact And.intro (by omega) (by omega)) only [mck, mg_0, mp_0, mr_1, mg_2, mp_2, mr_3, mg_4, mp_4, mr_5, mr_6, mr_7, mr_8, mr_9, mg_10, mp_10, mg_11, mp_11, mg_12, mp_12, mg_13, mp_13, mg_14, mp_14, mg_15, mp_15, mg_16, mp_16, mg_17, mp_17, mg_18, mp_18, mg_19, mp_19, mg_20, mp_20, mr_21, mr_22, mr_23, mr_24, mr_25, mr_26, mr_27, mr_28, mr_29, mr_30, mr_31, mr_32, mg_33, mp_33, mr_34, mr_35, mr_36, mr_37, mr_38, mg_39, mp_39, mr_40, mr_41, mr_42, mg_43, mp_43, mr_44, mr_45, mg_46, mp_46, mr_47, mr_48, mg_49, mp_49, mg_50, mp_50, mg_51, mp_51, mr_52, mr_53, mr_54, mg_55, mp_55, mr_56, mr_57, mg_58, mp_58, mg_59, mp_59, mg_60, mp_60, mr_61, mg_62, mp_62, mr_63, mr_64, mr_65, mr_66, mr_67, mr_68, ma_1, ms_1, ma_2, ms_2, ma_3, ms_3, ma_4, ms_4, ma_5, ms_5, ma_6, ms_6, ma_7, ms_7, ma_8, ms_8, ma_9, ms_9, ma_10, ms_10, ma_11, ms_11, ma_12, ms_12, ma_13, ms_13, ma_14, ms_14, ma_15, ms_15, ma_16, ms_16, ma_17, ms_17, ma_18, ms_18, ma_19, ms_19, ma_20, ms_20, ma_21, ms_21, ma_22, ms_22, ma_23, ms_23, ma_24, ms_24, ma_25, ms_25, ma_26, ms_26, ma_27, ms_27, ma_28, ms_28, ma_29, ms_29, ma_30, ms_30, ma_31, ms_31, ma_32, ms_32, ma_33, ms_33, ma_34, ms_34, ma_35, ms_35, ma_36, ms_36, ma_37, ms_37, ma_38, ms_38, ma_39, ms_39, ma_40, ms_40, ma_41, ms_41, ma_42, ms_42, ma_43, ms_43, if_true, if_false, Option.bind_some, cb_e, lt_e, nI_1, hs_nar2, nh4, upd_at, vau_at, ma_30_18, ms_30_18, ma_31_18, ms_31_18, ma_28_0, ms_28_0, ma_28_1, ms_28_1, ma_28_2, ms_28_2, ma_28_3, ms_28_3, ma_28_4, ms_28_4, ma_42_0, ms_42_0, ma_42_1, ms_42_1, ma_42_2, ms_42_2, ma_36_0, ms_36_0, e1, w1]
    by_cases k6 : k = 6
    · rw [if_pos (show nI k = (6 : Int32) from (keq 6 (by decide)).2 k6)]
      exact fin0 (by unfold pop1; rw [decide_eq_true k6]; rfl)
    rw [if_neg (show ¬ nI k = (6 : Int32) from ng 6 (by decide) k6)]
    by_cases x0 : x = 0
    · rw [if_pos (show nI x = 0 by rw [x0]; rfl)]
      exact b42 (by unfold pop1; rw [decide_eq_false k6, decide_eq_false (show ¬ x = 1 by omega)]; rfl)
    rw [if_neg (nI_ne0 (by omega) (by omega))]
    by_cases k8 : k = 8
    · rw [if_pos (show nI k = (8 : Int32) from (keq 8 (by decide)).2 k8)]
      exact fin0 (by unfold pop1; rw [decide_eq_true (show x = 1 by omega), decide_eq_true k8]; simp)
    rw [if_neg (show ¬ nI k = (8 : Int32) from ng 8 (by decide) k8)]
    by_cases k9 : k = 9
    · rw [if_pos (show nI k = (9 : Int32) from (keq 9 (by decide)).2 k9)]
      exact fin0 (by unfold pop1; rw [decide_eq_true (show x = 1 by omega), decide_eq_true k9]; simp)
    rw [if_neg (show ¬ nI k = (9 : Int32) from ng 9 (by decide) k9)]
    exact b42 (by unfold pop1; rw [decide_eq_false k6, decide_eq_false k8, decide_eq_false k9]; simp)
theorem m_comes {x : Nat} (hx : x ≤ 1) (hl : lim ≤ 840) {W : List Nat} {c : Nat} {F : Nat → Int32} {A : Nat → Nat → Int32} (h1 : F 43 = nI W.length) (h2 : WA (A 27) W) (h3 : F 39 = nI c) (h4 : c + W.length ≤ lim) (h5 : W.length ≤ 60) : ∃ F' A', fX12_comesOut 0 (nI x) (mkM F A B) = some ((), mkM F' A' B) ∧ (∀ k, ¬ k = 39 → ¬ k = 43 → F' k = F k) ∧ F' 43 = nI (cR x W).length ∧ F' 39 = nI (c + (cT x W).length) ∧ SegM A' c ((cT x W).map opM) ∧ (∀ a, ¬ a = 25 → ¬ a = 26 → A' a = A a) ∧ WA (A' 27) (cR x W) ∧ MTr c lim F F' A A' := by
  obtain ⟨F', A', z1, z2⟩ := m_comes_go (B := B) hx hl W c FU F A h1 h2 h3 h4 h5 (by unfold FU; omega)
  refine ⟨F', A', ?_, z2⟩
  unfold fX12_comesOut
  simp -implicitDefEqProofs (disch := first | assumption | omega | decide | exact And.intro (by omega) (by omega)) only [mck, mg_0, mp_0, mr_1, mg_2, mp_2, mr_3, mg_4, mp_4, mr_5, mr_6, mr_7, mr_8, mr_9, mg_10, mp_10, mg_11, mp_11, mg_12, mp_12, mg_13, mp_13, mg_14, mp_14, mg_15, mp_15, mg_16, mp_16, mg_17, mp_17, mg_18, mp_18, mg_19, mp_19, mg_20, mp_20, mr_21, mr_22, mr_23, mr_24, mr_25, mr_26, mr_27, mr_28, mr_29, mr_30, mr_31, mr_32, mg_33, mp_33, mr_34, mr_35, mr_36, mr_37, mr_38, mg_39, mp_39, mr_40, mr_41, mr_42, mg_43, mp_43, mr_44, mr_45, mg_46, mp_46, mr_47, mr_48, mg_49, mp_49, mg_50, mp_50, mg_51, mp_51, mr_52, mr_53, mr_54, mg_55, mp_55, mr_56, mr_57, mg_58, mp_58, mg_59, mp_59, mg_60, mp_60, mr_61, mg_62, mp_62, mr_63, mr_64, mr_65, mr_66, mr_67, mr_68, ma_1, ms_1, ma_2, ms_2, ma_3, ms_3, ma_4, ms_4, ma_5, ms_5, ma_6, ms_6, ma_7, ms_7, ma_8, ms_8, ma_9, ms_9, ma_10, ms_10, ma_11, ms_11, ma_12, ms_12, ma_13, ms_13, ma_14, ms_14, ma_15, ms_15, ma_16, ms_16, ma_17, ms_17, ma_18, ms_18, ma_19, ms_19, ma_20, ms_20, ma_21, ms_21, ma_22, ms_22, ma_23, ms_23, ma_24, ms_24, ma_25, ms_25, ma_26, ms_26, ma_27, ms_27, ma_28, ms_28, ma_29, ms_29, ma_30, ms_30, ma_31, ms_31, ma_32, ms_32, ma_33, ms_33, ma_34, ms_34, ma_35, ms_35, ma_36, ms_36, ma_37, ms_37, ma_38, ms_38, ma_39, ms_39, ma_40, ms_40, ma_41, ms_41, ma_42, ms_42, ma_43, ms_43, if_true, if_false, Option.bind_some, cb_e, lt_e, nI_1, hs_nar2, nh4, upd_at, vau_at, ma_30_18, ms_30_18, ma_31_18, ms_31_18, ma_28_0, ms_28_0, ma_28_1, ms_28_1, ma_28_2, ms_28_2, ma_28_3, ms_28_3, ma_28_4, ms_28_4, ma_42_0, ms_42_0, ma_42_1, ms_42_1, ma_42_2, ms_42_2, ma_36_0, ms_36_0]
  exact z1
end CO
