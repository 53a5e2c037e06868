/-! ===== terms as rows of pushes and signs ===== -/
abbrev Op : Type := Nat × Nat
def opv (k : Nat) (a b : Int32) : Int32 := if k = 2 then a + b else if k = 3 then a - b else if k = 4 then a * b else a / b
def bin2 : List Int32 → (Int32 → Int32 → List Int32 → Option (List Int32)) → Option (List Int32)
  | b :: a :: st, f => f b a st
  | [_], _ => none
  | [], _ => none
def evS (v : Nat → Int32) : List Op → List Int32 → Option (List Int32)
  | [], st => some st
  | o :: r, st => if o.1 = 0 then evS v r (nI o.2 :: st) else if o.1 = 1 then evS v r (v o.2 :: st) else bin2 st (fun b a st' => if o.1 = 5 ∧ b = 0 then none else evS v r (opv o.1 a b :: st'))
/-- it goes from height s to height e, never above lim -/
def FitsTo : List Op → Nat → Nat → Nat → Prop
  | [], s, e, _ => s = e
  | o :: r, s, e, lim => (o.1 < 2 → s + 1 ≤ lim ∧ FitsTo r (s + 1) e lim) ∧ (¬ o.1 < 2 → 2 ≤ s ∧ FitsTo r (s - 1) e lim)
theorem FitsTo.app {lim : Nat} : ∀ (a : List Op) {b : List Op} {s m e : Nat}, FitsTo a s m lim → FitsTo b m e lim → FitsTo (a ++ b) s e lim
  | [], b, s, m, e, h1, h2 => by
    have : s = m := h1
    rw [List.nil_append, this]
    exact h2
  | o :: a, b, s, m, e, h1, h2 => by
    rw [List.cons_append]
    exact ⟨fun q => ⟨(h1.1 q).1, FitsTo.app a (h1.1 q).2 h2⟩, fun q => ⟨(h1.2 q).1, FitsTo.app a (h1.2 q).2 h2⟩⟩
def OkO (o : Op) : Prop := o.1 ≤ 5 ∧ (o.1 = 0 → o.2 ≤ 9999) ∧ (o.1 = 1 → o.2 ≤ 4)
def OkL (L : List Op) : Prop := ∀ o ∈ L, OkO o
/-- a term of height h -/
def GoodL (h : Nat) (L : List Op) : Prop := OkL L ∧ ∀ s lim, s + h ≤ lim → FitsTo L s (s + 1) lim
theorem evS_len (v : Nat → Int32) : ∀ (L : List Op) (st st' : List Int32) (e lim : Nat), FitsTo L st.length e lim → evS v L st = some st' → st'.length = e
  | [], st, st', e, lim, h, q => by
    rw [evS] at q
    cases q
    exact h
  | o :: r, st, st', e, lim, h, q => by
    rw [evS] at q
    by_cases c0 : o.1 = 0
    · rw [if_pos c0] at q
      exact evS_len v r (nI o.2 :: st) st' e lim (h.1 (by omega)).2 q
    · rw [if_neg c0] at q
      by_cases c1 : o.1 = 1
      · rw [if_pos c1] at q
        exact evS_len v r (v o.2 :: st) st' e lim (h.1 (by omega)).2 q
      · rw [if_neg c1] at q
        have h2 := h.2 (by omega)
        match st, h2, q with
        | b :: a :: st2, h2, q =>
          rw [bin2] at q
          split at q
          · cases q
          · exact evS_len v r (opv o.1 a b :: st2) st' e lim h2.2 q
        | [b], h2, q => exact absurd h2.1 (by simp)
        | [], h2, q => exact absurd h2.1 (by simp)
theorem evS_frame (v : Nat → Int32) (base : List Int32) : ∀ (L : List Op) (st : List Int32) (e lim : Nat), FitsTo L st.length e lim → evS v L (st ++ base) = (evS v L st).map (fun x => x ++ base)
  | [], st, e, lim, h => rfl
  | o :: r, st, e, lim, h => by
    rw [evS, evS]
    by_cases c0 : o.1 = 0
    · rw [if_pos c0, if_pos c0]
      exact evS_frame v base r (nI o.2 :: st) e lim (h.1 (by omega)).2
    · rw [if_neg c0, if_neg c0]
      by_cases c1 : o.1 = 1
      · rw [if_pos c1, if_pos c1]
        exact evS_frame v base r (v o.2 :: st) e lim (h.1 (by omega)).2
      · rw [if_neg c1, if_neg c1]
        have h2 := h.2 (by omega)
        match st, h2 with
        | b :: a :: st2, h2 =>
          show (if o.1 = 5 ∧ b = 0 then none else evS v r (opv o.1 a b :: (st2 ++ base))) = Option.map _ (if o.1 = 5 ∧ b = 0 then none else evS v r (opv o.1 a b :: st2))
          by_cases c : o.1 = 5 ∧ b = 0
          · rw [if_pos c, if_pos c]; rfl
          · rw [if_neg c, if_neg c]
            exact evS_frame v base r (opv o.1 a b :: st2) e lim h2.2
        | [b], h2 => exact absurd h2.1 (by simp)
        | [], h2 => exact absurd h2.1 (by simp)
def valR (v : Nat → Int32) (L : List Op) : Option Int32 := (evS v L []).bind (fun st => st.head?)
theorem val_cases {h : Nat} (v : Nat → Int32) {L : List Op} (hG : GoodL h L) (base : List Int32) : (valR v L = none ∧ evS v L base = none) ∨ ∃ x, valR v L = some x ∧ evS v L base = some (x :: base) := by
  have hf := hG.2 0 h (by omega)
  have e := evS_frame v base L [] 1 h hf
  rw [List.nil_append] at e
  unfold valR
  cases hq : evS v L [] with
  | none => left; rw [hq] at e; exact ⟨rfl, e⟩
  | some st =>
    have hl := evS_len v L [] st 1 h hf hq
    match st, hl with
    | [x], _ => right; rw [hq] at e; exact ⟨x, rfl, e⟩
def lawF : List (List Op × List Op × List Op) → List Op → (Nat → Int32) → Int32
  | [], la, v => (valR v la).getD 0
  | b :: Br, la, v => match valR v b.1 with
    | none => 0
    | some x => match valR v b.2.1 with
      | none => 0
      | some y => if x < y then (valR v b.2.2).getD 0 else lawF Br la v
/-- a stack, its top first, in a row of cells -/
def StA (g : Nat → Int32) : List Int32 → Prop
  | [] => True
  | x :: st => g st.length = x ∧ StA g st
theorem StA.up {g : Nat → Int32} {k : Nat} {y : Int32} : ∀ {st : List Int32}, StA g st → st.length ≤ k → StA (upd g k y) st
  | [], _, _ => trivial
  | x :: st, h, hk => by
    rw [List.length_cons] at hk
    exact ⟨by rw [upd_ne (by omega)]; exact h.1, StA.up h.2 (by omega)⟩
/-! the model -/
def SegM (A : Nat → Nat → Int32) (c : Nat) : List Op → Prop
  | [] => True
  | o :: r => (A 25 c = nI o.1 ∧ A 26 c = nI o.2) ∧ SegM A (c + 1) r
theorem SegM.app {A : Nat → Nat → Int32} : ∀ (a : List Op) {b : List Op} {c : Nat}, SegM A c a → SegM A (c + a.length) b → SegM A c (a ++ b)
  | [], b, c, _, h => h
  | o :: a, b, c, h1, h2 => by
    rw [List.length_cons, show c + (a.length + 1) = c + 1 + a.length by omega] at h2
    exact ⟨h1.1, SegM.app a h1.2 h2⟩
theorem SegM.eq {A A' : Nat → Nat → Int32} : ∀ {L : List Op} {c : Nat}, SegM A c L → (∀ j, c ≤ j → j < c + L.length → A' 25 j = A 25 j ∧ A' 26 j = A 26 j) → SegM A' c L
  | [], _, _, _ => trivial
  | o :: r, c, h, e => by
    rw [List.length_cons] at e
    have := e c (by omega) (by omega)
    exact ⟨⟨by rw [this.1]; exact h.1.1, by rw [this.2]; exact h.1.2⟩, h.2.eq (fun j q1 q2 => e j (by omega) (by omega))⟩
theorem m_termOf_go {F : Nat → Int32} {B : Nat → Nat → Int64} : ∀ (L : List Op) (c fuel : Nat) (st : List Int32) (A : Nat → Nat → Int32), OkL L → FitsTo L st.length 1 399 → st.length ≤ 399 → c + L.length ≤ 840 → SegM A c L → StA (A 29) st → L.length < fuel → (evS (v5 (A 28)) L st = none → ∃ g, fX12_termOf_b5 fuel 0 (nI (c + L.length)) (nI st.length) (nI c) (mkM F A B) = some (0, mkM (upd F 46 1) (va_up A 29 g) B)) ∧ ∀ x, evS (v5 (A 28)) L st = some [x] → ∃ g, fX12_termOf_b5 fuel 0 (nI (c + L.length)) (nI st.length) (nI c) (mkM F A B) = some (x, mkM F (va_up A 29 g) B)
  | [], c, fuel, st, A, hO, hf, hs, hc, hS, hA, hfu => by
    obtain ⟨fuel, rfl⟩ : ∃ q, fuel = q + 1 := ⟨fuel - 1, by omega⟩
    refine ⟨fun q => (by cases q), fun x q => ?_⟩
    rw [evS] at q
    cases q
    have h0 : A 29 0 = x := hA.1
    rw [List.length_nil] at hc ⊢
    rw [fX12_termOf_b5, if_pos (nI_le (a := c + 0) (b := c) (Nat.le_refl _) (by omega))]
    have ma : aI (mkM F A B) 2 29 0 = some (A 29 0) := ma_29 F A B (j := 0) (by decide)
    simp -implicitDefEqProofs (disch := first | assumption | omega | decide | exact And.intro (by omega) (by omega)) only [mck, mg_0, mp_0, mr_1, mg_2, mp_2, mr_3, mg_4, mp_4, mr_5, mr_6, mr_7, mr_8, mr_9, mg_10, mp_10, mg_11, mp_11, mg_12, mp_12, mg_13, mp_13, mg_14, mp_14, mg_15, mp_15, mg_16, mp_16, mg_17, mp_17, mg_18, mp_18, mg_19, mp_19, mg_20, mp_20, mr_21, mr_22, mr_23, mr_24, mr_25, mr_26, mr_27, mr_28, mr_29, mr_30, mr_31, mr_32, mg_33, mp_33, mr_34, mr_35, mr_36, mr_37, mr_38, mg_39, mp_39, mr_40, mr_41, mr_42, mg_43, mp_43, mr_44, mr_45, mg_46, mp_46, mr_47, mr_48, mg_49, mp_49, mg_50, mp_50, mg_51, mp_51, mr_52, mr_53, mr_54, mg_55, mp_55, mr_56, mr_57, mg_58, mp_58, mg_59, mp_59, mg_60, mp_60, mr_61, mg_62, mp_62, mr_63, mr_64, mr_65, mr_66, mr_67, mr_68, ma_1, ms_1, ma_2, ms_2, ma_3, ms_3, ma_4, ms_4, ma_5, ms_5, ma_6, ms_6, ma_7, ms_7, ma_8, ms_8, ma_9, ms_9, ma_10, ms_10, ma_11, ms_11, ma_12, ms_12, ma_13, ms_13, ma_14, ms_14, ma_15, ms_15, ma_16, ms_16, ma_17, ms_17, ma_18, ms_18, ma_19, ms_19, ma_20, ms_20, ma_21, ms_21, ma_22, ms_22, ma_23, ms_23, ma_24, ms_24, ma_25, ms_25, ma_26, ms_26, ma_27, ms_27, ma_28, ms_28, ma_29, ms_29, ma_30, ms_30, ma_31, ms_31, ma_32, ms_32, ma_33, ms_33, ma_34, ms_34, ma_35, ms_35, ma_36, ms_36, ma_37, ms_37, ma_38, ms_38, ma_39, ms_39, ma_40, ms_40, ma_41, ms_41, ma_42, ms_42, ma_43, ms_43, if_true, if_false, Option.bind_some, cb_e, lt_e, nI_1, hs_nar2, nh4, upd_at, vau_at, ma_30_18, ms_30_18, ma_31_18, ms_31_18, ma_28_0, ms_28_0, ma_28_1, ms_28_1, ma_28_2, ms_28_2, ma_28_3, ms_28_3, ma_28_4, ms_28_4, ma_42_0, ms_42_0, ma_42_1, ms_42_1, ma_42_2, ms_42_2, ma_36_0, ms_36_0, ma, h0]
    exact ⟨A 29, by rw [vau_id]⟩
  | o :: r, c, fuel, st, A, hO, hf, hs, hc, hS, hA, hfu => by
    rw [List.length_cons] at hfu hc ⊢
    obtain ⟨fuel, rfl⟩ : ∃ q, fuel = q + 1 := ⟨fuel - 1, by omega⟩
    obtain ⟨⟨s1, s2⟩, s3⟩ := hS
    obtain ⟨o1, o2, o3⟩ := hO o (List.mem_cons_self ..)
    have hO' : OkL r := fun x hx => hO x (List.mem_cons_of_mem _ hx)
    have hc840 : c < 840 := by omega
    have ec : c + (r.length + 1) = c + 1 + r.length := by omega
    -- one more on the stack
    have push : ∀ y : Int32, FitsTo r (st.length + 1) 1 399 → st.length + 1 ≤ 399 → (evS (v5 (A 28)) r (y :: st) = none → ∃ g, fX12_termOf_b58 (fX12_termOf_b5 fuel) 0 (nI (c + (r.length + 1))) (nI st.length) (nI c) 29 (nI st.length) y (mkM F A B) = some (0, mkM (upd F 46 1) (va_up A 29 g) B)) ∧ ∀ x, evS (v5 (A 28)) r (y :: st) = some [x] → ∃ g, fX12_termOf_b58 (fX12_termOf_b5 fuel) 0 (nI (c + (r.length + 1))) (nI st.length) (nI c) 29 (nI st.length) y (mkM F A B) = some (x, mkM F (va_up A 29 g) B) := by
      intro y hf2 hs2
      have hs400 : st.length < 400 := by omega
      obtain ⟨i1, i2⟩ := m_termOf_go (F := F) (B := B) r (c + 1) fuel (y :: st) (va_up A 29 (upd (A 29) st.length y)) hO' hf2 hs2 (by omega) (s3.eq (fun j _ _ => ⟨by rw [vau_ne (by decide)], by rw [vau_ne (by decide)]⟩)) ⟨by rw [vau_at, upd_at], by rw [vau_at]; exact hA.up (Nat.le_refl _)⟩ (by omega)
      rw [vau_ne (by decide)] at i1 i2
      unfold fX12_termOf_b58 fX12_termOf_b159
      simp -implicitDefEqProofs (disch := first | assumption | omega | decide | exact And.intro (by omega) (by omega)) only [mck, mg_0, mp_0, mr_1, mg_2, mp_2, mr_3, mg_4, mp_4, mr_5, mr_6, mr_7, mr_8, mr_9, mg_10, mp_10, mg_11, mp_11, mg_12, mp_12, mg_13, mp_13, mg_14, mp_14, mg_15, mp_15, mg_16, mp_16, mg_17, mp_17, mg_18, mp_18, mg_19, mp_19, mg_20, mp_20, mr_21, mr_22, mr_23, mr_24, mr_25, mr_26, mr_27, mr_28, mr_29, mr_30, mr_31, mr_32, mg_33, mp_33, mr_34, mr_35, mr_36, mr_37, mr_38, mg_39, mp_39, mr_40, mr_41, mr_42, mg_43, mp_43, mr_44, mr_45, mg_46, mp_46, mr_47, mr_48, mg_49, mp_49, mg_50, mp_50, mg_51, mp_51, mr_52, mr_53, mr_54, mg_55, mp_55, mr_56, mr_57, mg_58, mp_58, mg_59, mp_59, mg_60, mp_60, mr_61, mg_62, mp_62, mr_63, mr_64, mr_65, mr_66, mr_67, mr_68, ma_1, ms_1, ma_2, ms_2, ma_3, ms_3, ma_4, ms_4, ma_5, ms_5, ma_6, ms_6, ma_7, ms_7, ma_8, ms_8, ma_9, ms_9, ma_10, ms_10, ma_11, ms_11, ma_12, ms_12, ma_13, ms_13, ma_14, ms_14, ma_15, ms_15, ma_16, ms_16, ma_17, ms_17, ma_18, ms_18, ma_19, ms_19, ma_20, ms_20, ma_21, ms_21, ma_22, ms_22, ma_23, ms_23, ma_24, ms_24, ma_25, ms_25, ma_26, ms_26, ma_27, ms_27, ma_28, ms_28, ma_29, ms_29, ma_30, ms_30, ma_31, ms_31, ma_32, ms_32, ma_33, ms_33, ma_34, ms_34, ma_35, ms_35, ma_36, ms_36, ma_37, ms_37, ma_38, ms_38, ma_39, ms_39, ma_40, ms_40, ma_41, ms_41, ma_42, ms_42, ma_43, ms_43, if_true, if_false, Option.bind_some, cb_e, lt_e, nI_1, hs_nar2, nh4, upd_at, vau_at, ma_30_18, ms_30_18, ma_31_18, ms_31_18, ma_28_0, ms_28_0, ma_28_1, ms_28_1, ma_28_2, ms_28_2, ma_28_3, ms_28_3, ma_28_4, ms_28_4, ma_42_0, ms_42_0, ma_42_1, ms_42_1, ma_42_2, ms_42_2, ma_36_0, ms_36_0, ec]
      constructor
      · intro q
        obtain ⟨g, z⟩ := i1 q
        rw [vau_vau] at z
        exact ⟨g, z⟩
      · intro x q
        obtain ⟨g, z⟩ := i2 x q
        rw [vau_vau] at z
        exact ⟨g, z⟩
    rw [fX12_termOf_b5, if_neg (nI_ge (by omega) (by omega)), evS]
    simp -implicitDefEqProofs (disch := first | assumption | omega | decide | exact And.intro (by omega) (by omega)) only [mck, mg_0, mp_0, mr_1, mg_2, mp_2, mr_3, mg_4, mp_4, mr_5, mr_6, mr_7, mr_8, mr_9, mg_10, mp_10, mg_11, mp_11, mg_12, mp_12, mg_13, mp_13, mg_14, mp_14, mg_15, mp_15, mg_16, mp_16, mg_17, mp_17, mg_18, mp_18, mg_19, mp_19, mg_20, mp_20, mr_21, mr_22, mr_23, mr_24, mr_25, mr_26, mr_27, mr_28, mr_29, mr_30, mr_31, mr_32, mg_33, mp_33, mr_34, mr_35, mr_36, mr_37, mr_38, mg_39, mp_39, mr_40, mr_41, mr_42, mg_43, mp_43, mr_44, mr_45, mg_46, mp_46, mr_47, mr_48, mg_49, mp_49, mg_50, mp_50, mg_51, mp_51, mr_52, mr_53, mr_54, mg_55, mp_55, mr_56, mr_57, mg_58, mp_58, mg_59, mp_59, mg_60, mp_60, mr_61, mg_62, mp_62, mr_63, mr_64, mr_65, mr_66, mr_67, mr_68, ma_1, ms_1, ma_2, ms_2, ma_3, ms_3, ma_4, ms_4, ma_5, ms_5, ma_6, ms_6, ma_7, ms_7, ma_8, ms_8, ma_9, ms_9, ma_10, ms_10, ma_11, ms_11, ma_12, ms_12, ma_13, ms_13, ma_14, ms_14, ma_15, ms_15, ma_16, ms_16, ma_17, ms_17, ma_18, ms_18, ma_19, ms_19, ma_20, ms_20, ma_21, ms_21, ma_22, ms_22, ma_23, ms_23, ma_24, ms_24, ma_25, ms_25, ma_26, ms_26, ma_27, ms_27, ma_28, ms_28, ma_29, ms_29, ma_30, ms_30, ma_31, ms_31, ma_32, ms_32, ma_33, ms_33, ma_34, ms_34, ma_35, ms_35, ma_36, ms_36, ma_37, ms_37, ma_38, ms_38, ma_39, ms_39, ma_40, ms_40, ma_41, ms_41, ma_42, ms_42, ma_43, ms_43, if_true, if_false, Option.bind_some, cb_e, lt_e, nI_1, hs_nar2, nh4, upd_at, vau_at, ma_30_18, ms_30_18, ma_31_18, ms_31_18, ma_28_0, ms_28_0, ma_28_1, ms_28_1, ma_28_2, ms_28_2, ma_28_3, ms_28_3, ma_28_4, ms_28_4, ma_42_0, ms_42_0, ma_42_1, ms_42_1, ma_42_2, ms_42_2, ma_36_0, ms_36_0, s1]
    by_cases c0 : o.1 = 0
    · have hf2 := hf.1 (by omega)
      rw [if_neg (show ¬ (2 : Int32) ≤ nI o.1 from nI_ge (b := 2) (by omega) (by decide)), if_pos c0, if_pos (show nI o.1 = 0 by rw [c0]; rfl)]
      simp -implicitDefEqProofs (disch := first | assumption | omega | decide | exact And.intro (by omega) (by omega)) only [mck, mg_0, mp_0, mr_1, mg_2, mp_2, mr_3, mg_4, mp_4, mr_5, mr_6, mr_7, mr_8, mr_9, mg_10, mp_10, mg_11, mp_11, mg_12, mp_12, mg_13, mp_13, mg_14, mp_14, mg_15, mp_15, mg_16, mp_16, mg_17, mp_17, mg_18, mp_18, mg_19, mp_19, mg_20, mp_20, mr_21, mr_22, mr_23, mr_24, mr_25, mr_26, mr_27, mr_28, mr_29, mr_30, mr_31, mr_32, mg_33, mp_33, mr_34, mr_35, mr_36, mr_37, mr_38, mg_39, mp_39, mr_40, mr_41, mr_42, mg_43, mp_43, mr_44, mr_45, mg_46, mp_46, mr_47, mr_48, mg_49, mp_49, mg_50, mp_50, mg_51, mp_51, mr_52, mr_53, mr_54, mg_55, mp_55, mr_56, mr_57, mg_58, mp_58, mg_59, mp_59, mg_60, mp_60, mr_61, mg_62, mp_62, mr_63, mr_64, mr_65, mr_66, mr_67, mr_68, ma_1, ms_1, ma_2, ms_2, ma_3, ms_3, ma_4, ms_4, ma_5, ms_5, ma_6, ms_6, ma_7, ms_7, ma_8, ms_8, ma_9, ms_9, ma_10, ms_10, ma_11, ms_11, ma_12, ms_12, ma_13, ms_13, ma_14, ms_14, ma_15, ms_15, ma_16, ms_16, ma_17, ms_17, ma_18, ms_18, ma_19, ms_19, ma_20, ms_20, ma_21, ms_21, ma_22, ms_22, ma_23, ms_23, ma_24, ms_24, ma_25, ms_25, ma_26, ms_26, ma_27, ms_27, ma_28, ms_28, ma_29, ms_29, ma_30, ms_30, ma_31, ms_31, ma_32, ms_32, ma_33, ms_33, ma_34, ms_34, ma_35, ms_35, ma_36, ms_36, ma_37, ms_37, ma_38, ms_38, ma_39, ms_39, ma_40, ms_40, ma_41, ms_41, ma_42, ms_42, ma_43, ms_43, if_true, if_false, Option.bind_some, cb_e, lt_e, nI_1, hs_nar2, nh4, upd_at, vau_at, ma_30_18, ms_30_18, ma_31_18, ms_31_18, ma_28_0, ms_28_0, ma_28_1, ms_28_1, ma_28_2, ms_28_2, ma_28_3, ms_28_3, ma_28_4, ms_28_4, ma_42_0, ms_42_0, ma_42_1, ms_42_1, ma_42_2, ms_42_2, ma_36_0, ms_36_0, s2]
      exact push (nI o.2) hf2.2 hf2.1
    · rw [if_neg c0]
      by_cases c1 : o.1 = 1
      · have hf2 := hf.1 (by omega)
        have o25 : o.2 < 5 := by have := o3 c1; omega
        have ev : v5 (A 28) o.2 = A 28 o.2 := by unfold v5; rw [show min o.2 4 = o.2 by omega]
        rw [if_neg (show ¬ (2 : Int32) ≤ nI o.1 from nI_ge (b := 2) (by omega) (by decide)), if_pos c1, if_neg (nI_ne0 (by omega) (by omega)), ev]
        simp -implicitDefEqProofs (disch := first | assumption | omega | decide | exact And.intro (by omega) (by omega)) only [mck, mg_0, mp_0, mr_1, mg_2, mp_2, mr_3, mg_4, mp_4, mr_5, mr_6, mr_7, mr_8, mr_9, mg_10, mp_10, mg_11, mp_11, mg_12, mp_12, mg_13, mp_13, mg_14, mp_14, mg_15, mp_15, mg_16, mp_16, mg_17, mp_17, mg_18, mp_18, mg_19, mp_19, mg_20, mp_20, mr_21, mr_22, mr_23, mr_24, mr_25, mr_26, mr_27, mr_28, mr_29, mr_30, mr_31, mr_32, mg_33, mp_33, mr_34, mr_35, mr_36, mr_37, mr_38, mg_39, mp_39, mr_40, mr_41, mr_42, mg_43, mp_43, mr_44, mr_45, mg_46, mp_46, mr_47, mr_48, mg_49, mp_49, mg_50, mp_50, mg_51, mp_51, mr_52, mr_53, mr_54, mg_55, mp_55, mr_56, mr_57, mg_58, mp_58, mg_59, mp_59, mg_60, mp_60, mr_61, mg_62, mp_62, mr_63, mr_64, mr_65, mr_66, mr_67, mr_68, ma_1, ms_1, ma_2, ms_2, ma_3, ms_3, ma_4, ms_4, ma_5, ms_5, ma_6, ms_6, ma_7, ms_7, ma_8, ms_8, ma_9, ms_9, ma_10, ms_10, ma_11, ms_11, ma_12, ms_12, ma_13, ms_13, ma_14, ms_14, ma_15, ms_15, ma_16, ms_16, ma_17, ms_17, ma_18, ms_18, ma_19, ms_19, ma_20, ms_20, ma_21, ms_21, ma_22, ms_22, ma_23, ms_23, ma_24, ms_24, ma_25, ms_25, ma_26, ms_26, ma_27, ms_27, ma_28, ms_28, ma_29, ms_29, ma_30, ms_30, ma_31, ms_31, ma_32, ms_32, ma_33, ms_33, ma_34, ms_34, ma_35, ms_35, ma_36, ms_36, ma_37, ms_37, ma_38, ms_38, ma_39, ms_39, ma_40, ms_40, ma_41, ms_41, ma_42, ms_42, ma_43, ms_43, if_true, if_false, Option.bind_some, cb_e, lt_e, nI_1, hs_nar2, nh4, upd_at, vau_at, ma_30_18, ms_30_18, ma_31_18, ms_31_18, ma_28_0, ms_28_0, ma_28_1, ms_28_1, ma_28_2, ms_28_2, ma_28_3, ms_28_3, ma_28_4, ms_28_4, ma_42_0, ms_42_0, ma_42_1, ms_42_1, ma_42_2, ms_42_2, ma_36_0, ms_36_0, s2]
        exact push (A 28 o.2) hf2.2 hf2.1
      · have hf2 := hf.2 (by omega)
        rw [if_pos (show (2 : Int32) ≤ nI o.1 from nI_le (a := 2) (by omega) (by omega)), if_neg c1]
        match st, hA, hf2, hs with
        | [b], _, hf2, _ => exact absurd hf2.1 (by simp)
        | [], _, hf2, _ => exact absurd hf2.1 (by simp)
        | b :: a :: st2, hA, hf2, hs =>
          obtain ⟨hA1, hA2, hA3⟩ := hA
          rw [List.length_cons, List.length_cons] at hs hf2
          rw [List.length_cons] at hA1
          have l400 : st2.length < 400 := by omega
          have l401 : st2.length + 1 < 400 := by omega
          have e1 : nI (st2.length + 1 + 1) + (-1) = nI (st2.length + 1) := pk_m1 _
          have e2 : nI (st2.length + 1) - 1 = nI st2.length := nI_pred _
          rw [List.length_cons, List.length_cons, bin2]
          simp -implicitDefEqProofs (disch := first | assumption | omega | decide | exact And.intro (by omega) (by omega)) only [mck, mg_0, mp_0, mr_1, mg_2, mp_2, mr_3, mg_4, mp_4, mr_5, mr_6, mr_7, mr_8, mr_9, mg_10, mp_10, mg_11, mp_11, mg_12, mp_12, mg_13, mp_13, mg_14, mp_14, mg_15, mp_15, mg_16, mp_16, mg_17, mp_17, mg_18, mp_18, mg_19, mp_19, mg_20, mp_20, mr_21, mr_22, mr_23, mr_24, mr_25, mr_26, mr_27, mr_28, mr_29, mr_30, mr_31, mr_32, mg_33, mp_33, mr_34, mr_35, mr_36, mr_37, mr_38, mg_39, mp_39, mr_40, mr_41, mr_42, mg_43, mp_43, mr_44, mr_45, mg_46, mp_46, mr_47, mr_48, mg_49, mp_49, mg_50, mp_50, mg_51, mp_51, mr_52, mr_53, mr_54, mg_55, mp_55, mr_56, mr_57, mg_58, mp_58, mg_59, mp_59, mg_60, mp_60, mr_61, mg_62, mp_62, mr_63, mr_64, mr_65, mr_66, mr_67, mr_68, ma_1, ms_1, ma_2, ms_2, ma_3, ms_3, ma_4, ms_4, ma_5, ms_5, ma_6, ms_6, ma_7, ms_7, ma_8, ms_8, ma_9, ms_9, ma_10, ms_10, ma_11, ms_11, ma_12, ms_12, ma_13, ms_13, ma_14, ms_14, ma_15, ms_15, ma_16, ms_16, ma_17, ms_17, ma_18, ms_18, ma_19, ms_19, ma_20, ms_20, ma_21, ms_21, ma_22, ms_22, ma_23, ms_23, ma_24, ms_24, ma_25, ms_25, ma_26, ms_26, ma_27, ms_27, ma_28, ms_28, ma_29, ms_29, ma_30, ms_30, ma_31, ms_31, ma_32, ms_32, ma_33, ms_33, ma_34, ms_34, ma_35, ms_35, ma_36, ms_36, ma_37, ms_37, ma_38, ms_38, ma_39, ms_39, ma_40, ms_40, ma_41, ms_41, ma_42, ms_42, ma_43, ms_43, if_true, if_false, Option.bind_some, cb_e, lt_e, nI_1, hs_nar2, nh4, upd_at, vau_at, ma_30_18, ms_30_18, ma_31_18, ms_31_18, ma_28_0, ms_28_0, ma_28_1, ms_28_1, ma_28_2, ms_28_2, ma_28_3, ms_28_3, ma_28_4, ms_28_4, ma_42_0, ms_42_0, ma_42_1, ms_42_1, ma_42_2, ms_42_2, ma_36_0, ms_36_0, e1, e2, hA1, hA2]
          have b158 : ∀ y : Int32, (evS (v5 (A 28)) r (y :: st2) = none → ∃ g, fX12_termOf_b158 (fX12_termOf_b5 fuel) 0 (nI (c + (r.length + 1))) (nI (st2.length + 1)) (nI c) 29 (nI st2.length) y (mkM F A B) = some (0, mkM (upd F 46 1) (va_up A 29 g) B)) ∧ ∀ x, evS (v5 (A 28)) r (y :: st2) = some [x] → ∃ g, fX12_termOf_b158 (fX12_termOf_b5 fuel) 0 (nI (c + (r.length + 1))) (nI (st2.length + 1)) (nI c) 29 (nI st2.length) y (mkM F A B) = some (x, mkM F (va_up A 29 g) B) := by
            intro y
            obtain ⟨i1, i2⟩ := m_termOf_go (F := F) (B := B) r (c + 1) fuel (y :: st2) (va_up A 29 (upd (A 29) st2.length y)) hO' hf2.2 (by rw [List.length_cons]; omega) (by omega) (s3.eq (fun j _ _ => ⟨by rw [vau_ne (by decide)], by rw [vau_ne (by decide)]⟩)) ⟨by rw [vau_at, upd_at], by rw [vau_at]; exact hA3.up (Nat.le_refl _)⟩ (by omega)
            rw [vau_ne (by decide)] at i1 i2
            unfold fX12_termOf_b158 fX12_termOf_b159
            simp -implicitDefEqProofs (disch := first | assumption | omega | decide | exact And.intro (by omega) (by omega)) only [mck, mg_0, mp_0, mr_1, mg_2, mp_2, mr_3, mg_4, mp_4, mr_5, mr_6, mr_7, mr_8, mr_9, mg_10, mp_10, mg_11, mp_11, mg_12, mp_12, mg_13, mp_13, mg_14, mp_14, mg_15, mp_15, mg_16, mp_16, mg_17, mp_17, mg_18, mp_18, mg_19, mp_19, mg_20, mp_20, mr_21, mr_22, mr_23, mr_24, mr_25, mr_26, mr_27, mr_28, mr_29, mr_30, mr_31, mr_32, mg_33, mp_33, mr_34, mr_35, mr_36, mr_37, mr_38, mg_39, mp_39, mr_40, mr_41, mr_42, mg_43, mp_43, mr_44, mr_45, mg_46, mp_46, mr_47, mr_48, mg_49, mp_49, mg_50, mp_50, mg_51, mp_51, mr_52, mr_53, mr_54, mg_55, mp_55, mr_56, mr_57, mg_58, mp_58, mg_59, mp_59, mg_60, mp_60, mr_61, mg_62, mp_62, mr_63, mr_64, mr_65, mr_66, mr_67, mr_68, ma_1, ms_1, ma_2, ms_2, ma_3, ms_3, ma_4, ms_4, ma_5, ms_5, ma_6, ms_6, ma_7, ms_7, ma_8, ms_8, ma_9, ms_9, ma_10, ms_10, ma_11, ms_11, ma_12, ms_12, ma_13, ms_13, ma_14, ms_14, ma_15, ms_15, ma_16, ms_16, ma_17, ms_17, ma_18, ms_18, ma_19, ms_19, ma_20, ms_20, ma_21, ms_21, ma_22, ms_22, ma_23, ms_23, ma_24, ms_24, ma_25, ms_25, ma_26, ms_26, ma_27, ms_27, ma_28, ms_28, ma_29, ms_29, ma_30, ms_30, ma_31, ms_31, ma_32, ms_32, ma_33, ms_33, ma_34, ms_34, ma_35, ms_35, ma_36, ms_36, ma_37, ms_37, ma_38, ms_38, ma_39, ms_39, ma_40, ms_40, ma_41, ms_41, ma_42, ms_42, ma_43, ms_43, if_true, if_false, Option.bind_some, cb_e, lt_e, nI_1, hs_nar2, nh4, upd_at, vau_at, ma_30_18, ms_30_18, ma_31_18, ms_31_18, ma_28_0, ms_28_0, ma_28_1, ms_28_1, ma_28_2, ms_28_2, ma_28_3, ms_28_3, ma_28_4, ms_28_4, ma_42_0, ms_42_0, ma_42_1, ms_42_1, ma_42_2, ms_42_2, ma_36_0, ms_36_0, ec]
            constructor
            · intro q
              obtain ⟨g, z⟩ := i1 q
              rw [vau_vau] at z
              exact ⟨g, z⟩
            · intro x q
              obtain ⟨g, z⟩ := i2 x q
              rw [vau_vau] at z
              exact ⟨g, z⟩
          have b104 : ¬ (o.1 = 5 ∧ b = 0) → (evS (v5 (A 28)) r (opv o.1 a b :: st2) = none → ∃ g, fX12_termOf_b104 (fX12_termOf_b5 fuel) 0 (nI (c + (r.length + 1))) (nI (st2.length + 1)) (nI c) (nI o.1) a b (mkM F A B) = some (0, mkM (upd F 46 1) (va_up A 29 g) B)) ∧ ∀ x, evS (v5 (A 28)) r (opv o.1 a b :: st2) = some [x] → ∃ g, fX12_termOf_b104 (fX12_termOf_b5 fuel) 0 (nI (c + (r.length + 1))) (nI (st2.length + 1)) (nI c) (nI o.1) a b (mkM F A B) = some (x, mkM F (va_up A 29 g) B) := by
            intro hn
            unfold fX12_termOf_b104 opv
            simp -implicitDefEqProofs (disch := first | assumption | omega | decide | exact And.intro (by omega) (by omega)) only [mck, mg_0, mp_0, mr_1, mg_2, mp_2, mr_3, mg_4, mp_4, mr_5, mr_6, mr_7, mr_8, mr_9, mg_10, mp_10, mg_11, mp_11, mg_12, mp_12, mg_13, mp_13, mg_14, mp_14, mg_15, mp_15, mg_16, mp_16, mg_17, mp_17, mg_18, mp_18, mg_19, mp_19, mg_20, mp_20, mr_21, mr_22, mr_23, mr_24, mr_25, mr_26, mr_27, mr_28, mr_29, mr_30, mr_31, mr_32, mg_33, mp_33, mr_34, mr_35, mr_36, mr_37, mr_38, mg_39, mp_39, mr_40, mr_41, mr_42, mg_43, mp_43, mr_44, mr_45, mg_46, mp_46, mr_47, mr_48, mg_49, mp_49, mg_50, mp_50, mg_51, mp_51, mr_52, mr_53, mr_54, mg_55, mp_55, mr_56, mr_57, mg_58, mp_58, mg_59, mp_59, mg_60, mp_60, mr_61, mg_62, mp_62, mr_63, mr_64, mr_65, mr_66, mr_67, mr_68, ma_1, ms_1, ma_2, ms_2, ma_3, ms_3, ma_4, ms_4, ma_5, ms_5, ma_6, ms_6, ma_7, ms_7, ma_8, ms_8, ma_9, ms_9, ma_10, ms_10, ma_11, ms_11, ma_12, ms_12, ma_13, ms_13, ma_14, ms_14, ma_15, ms_15, ma_16, ms_16, ma_17, ms_17, ma_18, ms_18, ma_19, ms_19, ma_20, ms_20, ma_21, ms_21, ma_22, ms_22, ma_23, ms_23, ma_24, ms_24, ma_25, ms_25, ma_26, ms_26, ma_27, ms_27, ma_28, ms_28, ma_29, ms_29, ma_30, ms_30, ma_31, ms_31, ma_32, ms_32, ma_33, ms_33, ma_34, ms_34, ma_35, ms_35, ma_36, ms_36, ma_37, ms_37, ma_38, ms_38, ma_39, ms_39, ma_40, ms_40, ma_41, ms_41, ma_42, ms_42, ma_43, ms_43, if_true, if_false, Option.bind_some, cb_e, lt_e, nI_1, hs_nar2, nh4, upd_at, vau_at, ma_30_18, ms_30_18, ma_31_18, ms_31_18, ma_28_0, ms_28_0, ma_28_1, ms_28_1, ma_28_2, ms_28_2, ma_28_3, ms_28_3, ma_28_4, ms_28_4, ma_42_0, ms_42_0, ma_42_1, ms_42_1, ma_42_2, ms_42_2, ma_36_0, ms_36_0, e2]
            have gq : ∀ d : Nat, d < 256 → (nI o.1 = nI d ↔ o.1 = d) := fun d hd => nI_eq (by omega) (by omega)
            by_cases d2 : o.1 = 2
            · rw [if_pos d2, if_pos (show nI o.1 = (2 : Int32) from (gq 2 (by decide)).2 d2)]
              exact b158 _
            rw [if_neg d2, if_neg (show ¬ nI o.1 = (2 : Int32) from fun q => d2 ((gq 2 (by decide)).1 q))]
            by_cases d3 : o.1 = 3
            · rw [if_pos d3, if_pos (show nI o.1 = (3 : Int32) from (gq 3 (by decide)).2 d3)]
              exact b158 _
            rw [if_neg d3, if_neg (show ¬ nI o.1 = (3 : Int32) from fun q => d3 ((gq 3 (by decide)).1 q))]
            by_cases d4 : o.1 = 4
            · rw [if_pos d4, if_pos (show nI o.1 = (4 : Int32) from (gq 4 (by decide)).2 d4)]
              exact b158 _
            rw [if_neg d4, if_neg (show ¬ nI o.1 = (4 : Int32) from fun q => d4 ((gq 4 (by decide)).1 q)), if_neg (fun q => hn ⟨by omega, q⟩)]
            exact b158 _
          by_cases d5 : o.1 = 5
          · rw [if_pos (show nI o.1 = (5 : Int32) by rw [d5]; rfl)]
            by_cases db : b = 0
            · rw [if_pos ⟨d5, db⟩, if_pos db]
              simp -implicitDefEqProofs (disch := first | assumption | omega | decide | exact And.intro (by omega) (by omega)) only [mck, mg_0, mp_0, mr_1, mg_2, mp_2, mr_3, mg_4, mp_4, mr_5, mr_6, mr_7, mr_8, mr_9, mg_10, mp_10, mg_11, mp_11, mg_12, mp_12, mg_13, mp_13, mg_14, mp_14, mg_15, mp_15, mg_16, mp_16, mg_17, mp_17, mg_18, mp_18, mg_19, mp_19, mg_20, mp_20, mr_21, mr_22, mr_23, mr_24, mr_25, mr_26, mr_27, mr_28, mr_29, mr_30, mr_31, mr_32, mg_33, mp_33, mr_34, mr_35, mr_36, mr_37, mr_38, mg_39, mp_39, mr_40, mr_41, mr_42, mg_43, mp_43, mr_44, mr_45, mg_46, mp_46, mr_47, mr_48, mg_49, mp_49, mg_50, mp_50, mg_51, mp_51, mr_52, mr_53, mr_54, mg_55, mp_55, mr_56, mr_57, mg_58, mp_58, mg_59, mp_59, mg_60, mp_60, mr_61, mg_62, mp_62, mr_63, mr_64, mr_65, mr_66, mr_67, mr_68, ma_1, ms_1, ma_2, ms_2, ma_3, ms_3, ma_4, ms_4, ma_5, ms_5, ma_6, ms_6, ma_7, ms_7, ma_8, ms_8, ma_9, ms_9, ma_10, ms_10, ma_11, ms_11, ma_12, ms_12, ma_13, ms_13, ma_14, ms_14, ma_15, ms_15, ma_16, ms_16, ma_17, ms_17, ma_18, ms_18, ma_19, ms_19, ma_20, ms_20, ma_21, ms_21, ma_22, ms_22, ma_23, ms_23, ma_24, ms_24, ma_25, ms_25, ma_26, ms_26, ma_27, ms_27, ma_28, ms_28, ma_29, ms_29, ma_30, ms_30, ma_31, ms_31, ma_32, ms_32, ma_33, ms_33, ma_34, ms_34, ma_35, ms_35, ma_36, ms_36, ma_37, ms_37, ma_38, ms_38, ma_39, ms_39, ma_40, ms_40, ma_41, ms_41, ma_42, ms_42, ma_43, ms_43, if_true, if_false, Option.bind_some, cb_e, lt_e, nI_1, hs_nar2, nh4, upd_at, vau_at, ma_30_18, ms_30_18, ma_31_18, ms_31_18, ma_28_0, ms_28_0, ma_28_1, ms_28_1, ma_28_2, ms_28_2, ma_28_3, ms_28_3, ma_28_4, ms_28_4, ma_42_0, ms_42_0, ma_42_1, ms_42_1, ma_42_2, ms_42_2, ma_36_0, ms_36_0]
              exact ⟨fun _ => ⟨A 29, by rw [vau_id]⟩, fun x q => (by cases q)⟩
            · rw [if_neg (fun q => db q.2), if_neg db]
              exact b104 (fun q => db q.2)
          · rw [if_neg (show ¬ nI o.1 = (5 : Int32) from fun q => d5 ((nI_eq (b := 5) (by omega) (by decide)).1 q)), if_neg (fun q => d5 q.1)]
            exact b104 (fun q => d5 q.1)
