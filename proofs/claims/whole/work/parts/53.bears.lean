/-! ===== bears, holds: the model tries all ===== -/
def fdn (q : Nat → Bool) : Nat → Option Nat
  | 0 => none
  | k + 1 => if q k then some k else fdn q k
def fup (q : Nat → Bool) : Nat → Nat → Option Nat
  | 0, _ => none
  | k + 1, j => if q j then some j else fup q k (j + 1)
theorem fdn_some {q : Nat → Bool} {m : Nat} (hq : q m = true) : ∀ k, m < k → (∀ j, m < j → j < k → q j = false) → fdn q k = some m
  | 0, h, _ => absurd h (by omega)
  | k + 1, h, h2 => by
    rw [fdn]
    by_cases e : m = k
    · subst e; rw [if_pos hq]
    · rw [if_neg (by rw [h2 k (by omega) (by omega)]; decide)]
      exact fdn_some hq k (by omega) (fun j h3 h4 => h2 j h3 (by omega))
theorem fdn_none {q : Nat → Bool} : ∀ k, (∀ j, j < k → q j = false) → fdn q k = none
  | 0, _ => rfl
  | k + 1, h => by
    rw [fdn, if_neg (by rw [h k (by omega)]; decide)]
    exact fdn_none k (fun j hj => h j (by omega))
theorem fup_some {q : Nat → Bool} {m : Nat} (hq : q m = true) : ∀ k i, i ≤ m → m < i + k → (∀ j, i ≤ j → j < m → q j = false) → fup q k i = some m
  | 0, i, h, h1, _ => absurd h1 (by omega)
  | k + 1, i, h, h1, h2 => by
    rw [fup]
    by_cases e : m = i
    · subst e; rw [if_pos hq]
    · rw [if_neg (by rw [h2 i (by omega) (by omega)]; decide)]
      exact fup_some hq k (i + 1) (by omega) (by omega) (fun j h3 h4 => h2 j (by omega) h4)
theorem fup_none {q : Nat → Bool} : ∀ k i, (∀ j, i ≤ j → j < i + k → q j = false) → fup q k i = none
  | 0, _, _ => rfl
  | k + 1, i, h => by
    rw [fup, if_neg (by rw [h i (by omega) (by omega)]; decide)]
    exact fup_none k (i + 1) (fun j h1 h2 => h j (by omega) (by omega))
def stM (T : TD) (b at_ : Int) (P : AP) (m : Nat) : Bool := (fal (stAt T tr0 b m at_ P) P.1 0).isNone
/-- the model looks at P with a fly more at b, at_ -/
def Sits (F : Nat → Int32) (b at_ : Int) : Prop := (F 50 = iI b ∧ F 51 = iI at_) ∧ in32 b ∧ (0 ≤ at_ ∧ at_ ≤ 99)
theorem m_bears_go {lv : Nat} {T : TD} {P : AP} {b at_ : Int} (h6 : P.1 ≤ 6) : ∀ k fuel, k ≤ 10000 → k < fuel → ∀ {F : Nat → Int32} {A : Nat → Nat → Int32} {B : Nat → Nat → Int64}, MRow F A lv T tr0 P → Sits F b at_ → F 49 = nI k + (-1) → ∃ F' A' B', fX12_bears_b18 fuel 0 (mkM F A B) = some (rF (-2) (fdn (stM T b at_ P) k), mkM F' A' B') ∧ MC F F' A A' B B' := by
  intro k
  induction k with
  | zero =>
    intro fuel h1 h2 F A B hR hS hF
    obtain ⟨fuel, rfl⟩ : ∃ q, fuel = q + 1 := ⟨fuel - 1, by omega⟩
    rw [fX12_bears_b18]
    simp -implicitDefEqProofs (disch := first | assumption | omega | decide | exact And.intro (by omega) (by omega)) only [mck, mg_0, mp_0, mr_1, mg_2, mp_2, mr_3, mg_4, mp_4, mr_5, mr_6, mr_7, mr_8, mr_9, mg_10, mp_10, mg_11, mp_11, mg_12, mp_12, mg_13, mp_13, mg_14, mp_14, mg_15, mp_15, mg_16, mp_16, mg_17, mp_17, mg_18, mp_18, mg_19, mp_19, mg_20, mp_20, mr_21, mr_22, mr_23, mr_24, mr_25, mr_26, mr_27, mr_28, mr_29, mr_30, mr_31, mr_32, mg_33, mp_33, mr_34, mr_35, mr_36, mr_37, mr_38, mg_39, mp_39, mr_40, mr_41, mr_42, mg_43, mp_43, mr_44, mr_45, mg_46, mp_46, mr_47, mr_48, mg_49, mp_49, mg_50, mp_50, mg_51, mp_51, mr_52, mr_53, mr_54, mg_55, mp_55, mr_56, mr_57, mg_58, mp_58, mg_59, mp_59, mg_60, mp_60, mr_61, mg_62, mp_62, mr_63, mr_64, mr_65, mr_66, mr_67, mr_68, ma_1, ms_1, ma_2, ms_2, ma_3, ms_3, ma_4, ms_4, ma_5, ms_5, ma_6, ms_6, ma_7, ms_7, ma_8, ms_8, ma_9, ms_9, ma_10, ms_10, ma_11, ms_11, ma_12, ms_12, ma_13, ms_13, ma_14, ms_14, ma_15, ms_15, ma_16, ms_16, ma_17, ms_17, ma_18, ms_18, ma_19, ms_19, ma_20, ms_20, ma_21, ms_21, ma_22, ms_22, ma_23, ms_23, ma_24, ms_24, ma_25, ms_25, ma_26, ms_26, ma_27, ms_27, ma_28, ms_28, ma_29, ms_29, ma_30, ms_30, ma_31, ms_31, ma_32, ms_32, ma_33, ms_33, ma_34, ms_34, ma_35, ms_35, ma_36, ms_36, ma_37, ms_37, ma_38, ms_38, ma_39, ms_39, ma_40, ms_40, ma_41, ms_41, ma_42, ms_42, ma_43, ms_43, if_true, if_false, Option.bind_some, cb_e, lt_e, nI_1, hs_nar2, nh4, upd_at, vau_at, ma_30_18, ms_30_18, ma_31_18, ms_31_18, ma_28_0, ms_28_0, ma_28_1, ms_28_1, ma_28_2, ms_28_2, ma_28_3, ms_28_3, ma_28_4, ms_28_4, ma_42_0, ms_42_0, ma_42_1, ms_42_1, ma_42_2, ms_42_2, ma_36_0, ms_36_0, hF]
    rw [if_pos (by decide)]
    exact ⟨_, _, _, rfl, MC.rf⟩
  | succ k ih =>
    intro fuel h1 h2 F A B hR hS hF
    obtain ⟨fuel, rfl⟩ : ∃ q, fuel = q + 1 := ⟨fuel - 1, by omega⟩
    rw [pk_m1] at hF
    have hM : More F b (k : Int) at_ := ⟨⟨hS.1.1, hF, hS.1.2⟩, hS.2.1, ⟨by omega, by omega⟩, fun _ => hS.2.2⟩
    obtain ⟨F1, A1, B1, q1, q2, q3⟩ := m_tipsAt B hR hM
    have e := rF_neg (s := stAt T tr0 b (k : Int) at_ P) h6
    have hF1 : F1 49 = nI k := by rw [q2.1 49 (by decide), hF]
    rw [fX12_bears_b18, fdn]
    simp -implicitDefEqProofs (disch := first | assumption | omega | decide | exact And.intro (by omega) (by omega)) only [mck, mg_0, mp_0, mr_1, mg_2, mp_2, mr_3, mg_4, mp_4, mr_5, mr_6, mr_7, mr_8, mr_9, mg_10, mp_10, mg_11, mp_11, mg_12, mp_12, mg_13, mp_13, mg_14, mp_14, mg_15, mp_15, mg_16, mp_16, mg_17, mp_17, mg_18, mp_18, mg_19, mp_19, mg_20, mp_20, mr_21, mr_22, mr_23, mr_24, mr_25, mr_26, mr_27, mr_28, mr_29, mr_30, mr_31, mr_32, mg_33, mp_33, mr_34, mr_35, mr_36, mr_37, mr_38, mg_39, mp_39, mr_40, mr_41, mr_42, mg_43, mp_43, mr_44, mr_45, mg_46, mp_46, mr_47, mr_48, mg_49, mp_49, mg_50, mp_50, mg_51, mp_51, mr_52, mr_53, mr_54, mg_55, mp_55, mr_56, mr_57, mg_58, mp_58, mg_59, mp_59, mg_60, mp_60, mr_61, mg_62, mp_62, mr_63, mr_64, mr_65, mr_66, mr_67, mr_68, ma_1, ms_1, ma_2, ms_2, ma_3, ms_3, ma_4, ms_4, ma_5, ms_5, ma_6, ms_6, ma_7, ms_7, ma_8, ms_8, ma_9, ms_9, ma_10, ms_10, ma_11, ms_11, ma_12, ms_12, ma_13, ms_13, ma_14, ms_14, ma_15, ms_15, ma_16, ms_16, ma_17, ms_17, ma_18, ms_18, ma_19, ms_19, ma_20, ms_20, ma_21, ms_21, ma_22, ms_22, ma_23, ms_23, ma_24, ms_24, ma_25, ms_25, ma_26, ms_26, ma_27, ms_27, ma_28, ms_28, ma_29, ms_29, ma_30, ms_30, ma_31, ms_31, ma_32, ms_32, ma_33, ms_33, ma_34, ms_34, ma_35, ms_35, ma_36, ms_36, ma_37, ms_37, ma_38, ms_38, ma_39, ms_39, ma_40, ms_40, ma_41, ms_41, ma_42, ms_42, ma_43, ms_43, if_true, if_false, Option.bind_some, cb_e, lt_e, nI_1, hs_nar2, nh4, upd_at, vau_at, ma_30_18, ms_30_18, ma_31_18, ms_31_18, ma_28_0, ms_28_0, ma_28_1, ms_28_1, ma_28_2, ms_28_2, ma_28_3, ms_28_3, ma_28_4, ms_28_4, ma_42_0, ms_42_0, ma_42_1, ms_42_1, ma_42_2, ms_42_2, ma_36_0, ms_36_0, hF, if_neg (nI_pos (show k < 2 ^ 31 by omega)), q1, hF1]
    by_cases c : stM T b at_ P k = true
    · have c' := c
      unfold stM at c'
      rw [if_pos c, if_neg (fun q => by have := e.1 q; rw [c'] at this; cases this)]
      exact ⟨_, _, _, rfl, q2.mc⟩
    · have c' : stM T b at_ P k = false := by cases h : stM T b at_ P k with
        | false => rfl
        | true => exact absurd h c
      have c'' := c'
      unfold stM at c''
      rw [if_neg c, if_pos (e.2 c'')]
      obtain ⟨F2, A2, B2, g1, g2⟩ := ih fuel (by omega) (by omega) (F := upd F1 49 (nI k - 1)) (A := A1) (B := B1) (by
        have := hR.ms q2
        exact ⟨⟨this.1.1, this.1.2⟩, this.2⟩) ⟨⟨by rw [upd_ne (by decide), q2.1 50 (by decide)]; exact hS.1.1, by rw [upd_ne (by decide), q2.1 51 (by decide)]; exact hS.1.2⟩, hS.2⟩ (by rw [upd_at]; exact Int32.sub_eq_add_neg _ _)
      exact ⟨F2, A2, B2, g1, q2.mc.tr (MC.tr ⟨fun j _ h3 _ _ => upd_ne h3, fun _ _ _ _ _ => rfl, fun _ _ _ => rfl⟩ g2)⟩
theorem m_holds_go {lv : Nat} {T : TD} {P : AP} {b at_ : Int} (h6 : P.1 ≤ 6) : ∀ k j fuel, j + k = 10000 → k < fuel → ∀ {F : Nat → Int32} {A : Nat → Nat → Int32} {B : Nat → Nat → Int64}, MRow F A lv T tr0 P → Sits F b at_ → F 49 = nI j → ∃ F' A' B', fX12_holds_b16 fuel 0 (mkM F A B) = some (rF (-2) (fup (stM T b at_ P) k j), mkM F' A' B') ∧ MC F F' A A' B B' := by
  intro k
  induction k with
  | zero =>
    intro j fuel h1 h2 F A B hR hS hF
    obtain ⟨fuel, rfl⟩ : ∃ q, fuel = q + 1 := ⟨fuel - 1, by omega⟩
    rw [fX12_holds_b16]
    simp -implicitDefEqProofs (disch := first | assumption | omega | decide | exact And.intro (by omega) (by omega)) only [mck, mg_0, mp_0, mr_1, mg_2, mp_2, mr_3, mg_4, mp_4, mr_5, mr_6, mr_7, mr_8, mr_9, mg_10, mp_10, mg_11, mp_11, mg_12, mp_12, mg_13, mp_13, mg_14, mp_14, mg_15, mp_15, mg_16, mp_16, mg_17, mp_17, mg_18, mp_18, mg_19, mp_19, mg_20, mp_20, mr_21, mr_22, mr_23, mr_24, mr_25, mr_26, mr_27, mr_28, mr_29, mr_30, mr_31, mr_32, mg_33, mp_33, mr_34, mr_35, mr_36, mr_37, mr_38, mg_39, mp_39, mr_40, mr_41, mr_42, mg_43, mp_43, mr_44, mr_45, mg_46, mp_46, mr_47, mr_48, mg_49, mp_49, mg_50, mp_50, mg_51, mp_51, mr_52, mr_53, mr_54, mg_55, mp_55, mr_56, mr_57, mg_58, mp_58, mg_59, mp_59, mg_60, mp_60, mr_61, mg_62, mp_62, mr_63, mr_64, mr_65, mr_66, mr_67, mr_68, ma_1, ms_1, ma_2, ms_2, ma_3, ms_3, ma_4, ms_4, ma_5, ms_5, ma_6, ms_6, ma_7, ms_7, ma_8, ms_8, ma_9, ms_9, ma_10, ms_10, ma_11, ms_11, ma_12, ms_12, ma_13, ms_13, ma_14, ms_14, ma_15, ms_15, ma_16, ms_16, ma_17, ms_17, ma_18, ms_18, ma_19, ms_19, ma_20, ms_20, ma_21, ms_21, ma_22, ms_22, ma_23, ms_23, ma_24, ms_24, ma_25, ms_25, ma_26, ms_26, ma_27, ms_27, ma_28, ms_28, ma_29, ms_29, ma_30, ms_30, ma_31, ms_31, ma_32, ms_32, ma_33, ms_33, ma_34, ms_34, ma_35, ms_35, ma_36, ms_36, ma_37, ms_37, ma_38, ms_38, ma_39, ms_39, ma_40, ms_40, ma_41, ms_41, ma_42, ms_42, ma_43, ms_43, if_true, if_false, Option.bind_some, cb_e, lt_e, nI_1, hs_nar2, nh4, upd_at, vau_at, ma_30_18, ms_30_18, ma_31_18, ms_31_18, ma_28_0, ms_28_0, ma_28_1, ms_28_1, ma_28_2, ms_28_2, ma_28_3, ms_28_3, ma_28_4, ms_28_4, ma_42_0, ms_42_0, ma_42_1, ms_42_1, ma_42_2, ms_42_2, ma_36_0, ms_36_0, hF]
    rw [if_pos (show (10000 : Int32) ≤ nI j from nI_le (a := 10000) (by omega) (by omega))]
    exact ⟨_, _, _, rfl, MC.rf⟩
  | succ k ih =>
    intro j fuel h1 h2 F A B hR hS hF
    obtain ⟨fuel, rfl⟩ : ∃ q, fuel = q + 1 := ⟨fuel - 1, by omega⟩
    have hM : More F b (j : Int) at_ := ⟨⟨hS.1.1, hF, hS.1.2⟩, hS.2.1, ⟨by omega, by omega⟩, fun _ => hS.2.2⟩
    obtain ⟨F1, A1, B1, q1, q2, q3⟩ := m_tipsAt B hR hM
    have e := rF_neg (s := stAt T tr0 b (j : Int) at_ P) h6
    have hF1 : F1 49 = nI j := by rw [q2.1 49 (by decide), hF]
    have n1 : ¬ (10000 : Int32) ≤ nI j := nI_ge (b := 10000) (by omega) (by decide)
    rw [fX12_holds_b16, fup]
    simp -implicitDefEqProofs (disch := first | assumption | omega | decide | exact And.intro (by omega) (by omega)) only [mck, mg_0, mp_0, mr_1, mg_2, mp_2, mr_3, mg_4, mp_4, mr_5, mr_6, mr_7, mr_8, mr_9, mg_10, mp_10, mg_11, mp_11, mg_12, mp_12, mg_13, mp_13, mg_14, mp_14, mg_15, mp_15, mg_16, mp_16, mg_17, mp_17, mg_18, mp_18, mg_19, mp_19, mg_20, mp_20, mr_21, mr_22, mr_23, mr_24, mr_25, mr_26, mr_27, mr_28, mr_29, mr_30, mr_31, mr_32, mg_33, mp_33, mr_34, mr_35, mr_36, mr_37, mr_38, mg_39, mp_39, mr_40, mr_41, mr_42, mg_43, mp_43, mr_44, mr_45, mg_46, mp_46, mr_47, mr_48, mg_49, mp_49, mg_50, mp_50, mg_51, mp_51, mr_52, mr_53, mr_54, mg_55, mp_55, mr_56, mr_57, mg_58, mp_58, mg_59, mp_59, mg_60, mp_60, mr_61, mg_62, mp_62, mr_63, mr_64, mr_65, mr_66, mr_67, mr_68, ma_1, ms_1, ma_2, ms_2, ma_3, ms_3, ma_4, ms_4, ma_5, ms_5, ma_6, ms_6, ma_7, ms_7, ma_8, ms_8, ma_9, ms_9, ma_10, ms_10, ma_11, ms_11, ma_12, ms_12, ma_13, ms_13, ma_14, ms_14, ma_15, ms_15, ma_16, ms_16, ma_17, ms_17, ma_18, ms_18, ma_19, ms_19, ma_20, ms_20, ma_21, ms_21, ma_22, ms_22, ma_23, ms_23, ma_24, ms_24, ma_25, ms_25, ma_26, ms_26, ma_27, ms_27, ma_28, ms_28, ma_29, ms_29, ma_30, ms_30, ma_31, ms_31, ma_32, ms_32, ma_33, ms_33, ma_34, ms_34, ma_35, ms_35, ma_36, ms_36, ma_37, ms_37, ma_38, ms_38, ma_39, ms_39, ma_40, ms_40, ma_41, ms_41, ma_42, ms_42, ma_43, ms_43, if_true, if_false, Option.bind_some, cb_e, lt_e, nI_1, hs_nar2, nh4, upd_at, vau_at, ma_30_18, ms_30_18, ma_31_18, ms_31_18, ma_28_0, ms_28_0, ma_28_1, ms_28_1, ma_28_2, ms_28_2, ma_28_3, ms_28_3, ma_28_4, ms_28_4, ma_42_0, ms_42_0, ma_42_1, ms_42_1, ma_42_2, ms_42_2, ma_36_0, ms_36_0, hF, if_neg n1, q1, hF1]
    by_cases c : stM T b at_ P j = true
    · have c' := c
      unfold stM at c'
      rw [if_pos c, if_neg (fun q => by have := e.1 q; rw [c'] at this; cases this)]
      exact ⟨_, _, _, rfl, q2.mc⟩
    · have c' : stM T b at_ P j = false := by cases h : stM T b at_ P j with
        | false => rfl
        | true => exact absurd h c
      have c'' := c'
      unfold stM at c''
      rw [if_neg c, if_pos (e.2 c'')]
      obtain ⟨F2, A2, B2, g1, g2⟩ := ih (j + 1) fuel (by omega) (by omega) (F := upd F1 49 (nI (j + 1))) (A := A1) (B := B1) (by
        have := hR.ms q2
        exact ⟨⟨this.1.1, this.1.2⟩, this.2⟩) ⟨⟨by rw [upd_ne (by decide), q2.1 50 (by decide)]; exact hS.1.1, by rw [upd_ne (by decide), q2.1 51 (by decide)]; exact hS.1.2⟩, hS.2⟩ (by rw [upd_at])
      exact ⟨F2, A2, B2, g1, q2.mc.tr (MC.tr ⟨fun j _ h3 _ _ => upd_ne h3, fun _ _ _ _ _ => rfl, fun _ _ _ => rfl⟩ g2)⟩
/-- a fly more on the book of level lev -/
theorem ld_more {T : TD} {P : AP} {nb : Nat} (hP : BigP nb P) {lev : Nat} (hl : lev < P.1) {m : Int} : ∀ k i, i + k = P.1 → ld T tr0 (pB P lev : Nat) m P i = ld0 T P i + (if i ≤ lev then m else 0)
  | 0, i, h => by
    have : i = P.1 := by omega
    subst this
    rw [if_neg (by omega)]
    show sumD _ P.1 (P.1 - P.1) = sumD _ P.1 (P.1 - P.1) + 0
    rw [Nat.sub_self]
    rfl
  | k + 1, i, h => by
    have hi : i < P.1 := by omega
    have e1 := ld_more (T := T) hP hl (m := m) k (i + 1) (by omega)
    have e2 : ld0 T P i = ld0 T P (i + 1) + gl T tr0 (-1) 0 P i := ld_step hi
    have e3 : gl T tr0 (pB P lev : Nat) m P i = gl T tr0 (-1) 0 P i + (if i = lev then m else 0) := by
      unfold gl
      by_cases c : i = lev
      · subst c
        rw [if_pos rfl, if_neg (by omega), if_pos rfl]
        omega
      · rw [if_neg (fun q => c (hP.2.2.1 i lev hi hl (by omega))), if_neg (by omega), if_neg c]
        omega
    rw [ld_step hi, e1, e2, e3]
    by_cases c1 : i = lev
    · subst c1
      rw [if_neg (by omega), if_pos rfl, if_pos (by omega)]
      omega
    · rw [if_neg c1]
      by_cases c2 : i ≤ lev
      · rw [if_pos (by omega), if_pos c2]; omega
      · rw [if_neg (by omega), if_neg c2]; omega
theorem mo_more {T : TD} {P : AP} {nb : Nat} (hP : BigP nb P) {lev : Nat} (hl : lev < P.1) {m at_ : Int} : ∀ k i, i + k = P.1 → mo T tr0 (pB P lev : Nat) m at_ P i = mo0 T P i + (if i ≤ lev then 2 * m * (pP P lev + at_) else 0)
  | 0, i, h => by
    have : i = P.1 := by omega
    subst this
    rw [if_neg (by omega)]
    show sumD _ P.1 (P.1 - P.1) = sumD _ P.1 (P.1 - P.1) + 0
    rw [Nat.sub_self]
    rfl
  | k + 1, i, h => by
    have hi : i < P.1 := by omega
    have e1 := mo_more (T := T) hP hl (m := m) (at_ := at_) k (i + 1) (by omega)
    have e2 : mo0 T P i = mo0 T P (i + 1) + gm T tr0 (-1) 0 0 P i := mo_step hi
    have e3 : gm T tr0 (pB P lev : Nat) m at_ P i = gm T tr0 (-1) 0 0 P i + (if i = lev then 2 * m * (pP P lev + at_) else 0) := by
      unfold gm
      by_cases c : i = lev
      · subst c
        rw [if_pos rfl, if_neg (by omega), if_pos rfl]
        omega
      · rw [if_neg (fun q => c (hP.2.2.1 i lev hi hl (by omega))), if_neg (by omega), if_neg c]
        omega
    rw [mo_step hi, e1, e2, e3]
    by_cases c1 : i = lev
    · subst c1
      rw [if_neg (by omega), if_pos rfl, if_pos (by omega)]
      omega
    · rw [if_neg c1]
      by_cases c2 : i ≤ lev
      · rw [if_pos (by omega), if_pos c2]; omega
      · rw [if_neg (by omega), if_neg c2]; omega
theorem lin1 (L M l s m : Int) : (l * (2 * (L + m)) ≤ M + 2 * m * s) ↔ 2 * (l - s) * m ≤ M - 2 * l * L := by
  have e1 : l * (2 * (L + m)) = 2 * l * L + 2 * l * m := by rw [Int.mul_left_comm, Int.mul_add, Int.mul_add, Int.mul_assoc, Int.mul_assoc]
  have e2 : 2 * (l - s) * m = 2 * l * m - 2 * m * s := by rw [Int.mul_sub, Int.sub_mul, Int.mul_assoc 2 s m, Int.mul_comm s m, ← Int.mul_assoc]
  omega
theorem lin2 (L M l s m : Int) : (M + 2 * m * s ≤ l * (2 * (L + m))) ↔ 2 * (s - l) * m ≤ 2 * l * L - M := by
  have e1 : l * (2 * (L + m)) = 2 * l * L + 2 * l * m := by rw [Int.mul_left_comm, Int.mul_add, Int.mul_add, Int.mul_assoc, Int.mul_assoc]
  have e2 : 2 * (s - l) * m = 2 * m * s - 2 * l * m := by rw [Int.mul_sub, Int.sub_mul, Int.mul_assoc 2 s m, Int.mul_comm s m, ← Int.mul_assoc]
  omega
theorem lin3 (L M l : Int) : (l * (2 * L) ≤ M) ↔ 0 ≤ M - 2 * l * L := by
  have e1 : l * (2 * L) = 2 * l * L := by rw [Int.mul_left_comm, Int.mul_assoc]
  omega
theorem lin4 (L M l : Int) : (M ≤ l * (2 * L)) ↔ 0 ≤ 2 * l * L - M := by
  have e1 : l * (2 * L) = 2 * l * L := by rw [Int.mul_left_comm, Int.mul_assoc]
  omega
theorem fal_iff {s : Nat → Bool} : ∀ k i, (fal s k i).isNone = true ↔ ∀ j, i ≤ j → j < i + k → s j = true := by
  intro k i
  constructor
  · intro h
    exact fal_n k i (by cases hq : fal s k i with
      | none => rfl
      | some x => rw [hq] at h; cases h)
  · intro h
    cases hq : fal s k i with
    | none => rfl
    | some x =>
      obtain ⟨h1, h2, h3⟩ := fal_b k i x hq
      rw [h x h1 h2] at h3
      cases h3
theorem stM_iff {T : TD} {P : AP} {nb : Nat} (hP : BigP nb P) {lev : Nat} (hl : lev < P.1) {at_ : Int} (m : Nat) (hm : m ≤ 9999) : stM T (pB P lev : Nat) at_ P m = true ↔ ((bea T P lev (pP P lev + at_) P.1 0 (0, 9999)).1 ≤ m ∧ (m : Int) ≤ (bea T P lev (pP P lev + at_) P.1 0 (0, 9999)).2) := by
  rw [bea_iff (by omega) P.1 0 (0, 9999)]
  unfold stM
  rw [fal_iff]
  have key : ∀ j, j < P.1 → (stAt T tr0 (pB P lev : Nat) m at_ P j = true ↔ ((0 < j ∧ pG P j = 1) ∨ (bA1 T P lev (pP P lev + at_) j * m ≤ bB1 T P j ∧ bA2 T P lev (pP P lev + at_) j * m ≤ bB2 T P j))) := by
    intro j hj
    unfold stAt stB
    rw [decide_eq_true_iff, ld_more hP hl (P.1 - j) j (by omega), mo_more hP hl (P.1 - j) j (by omega)]
    unfold bA1 bA2 bB1 bB2
    by_cases c : j ≤ lev
    · rw [if_pos c, if_pos c, if_pos c, if_pos c, lin1, lin2]
    · rw [if_neg c, if_neg c, if_neg c, if_neg c, Int.add_zero, Int.add_zero, Int.zero_mul, lin3, lin4]
  constructor
  · intro h
    exact ⟨⟨by dsimp only; omega, by dsimp only; omega⟩, fun j h1 h2 => (key j (by omega)).1 (h j h1 h2)⟩
  · intro h j h1 h2
    exact (key j (by omega)).2 (h.2 j h1 h2)
theorem fdn_iv {q : Nat → Bool} {p : Int × Int} (hb : Bd p) (h : ∀ m : Nat, m ≤ 9999 → (q m = true ↔ (p.1 ≤ m ∧ (m : Int) ≤ p.2))) : rF (-2) (fdn q 10000) = (if p.1 ≤ p.2 then iI p.2 else -2) ∧ rF (-2) (fup q 10000 0) = (if p.1 ≤ p.2 then iI p.1 else -2) := by
  obtain ⟨h1, h2⟩ := hb
  have fl : ∀ m : Nat, m ≤ 9999 → ¬ (p.1 ≤ m ∧ (m : Int) ≤ p.2) → q m = false := fun m hm hn => by
    cases hq : q m with
    | false => rfl
    | true => exact absurd ((h m hm).1 hq) hn
  by_cases c : p.1 ≤ p.2
  · rw [if_pos c, if_pos c]
    have a1 : fdn q 10000 = some p.2.toNat := fdn_some ((h p.2.toNat (by omega)).2 (by omega)) 10000 (by omega) (fun j h3 h4 => fl j (by omega) (by omega))
    have a2 : fup q 10000 0 = some p.1.toNat := fup_some ((h p.1.toNat (by omega)).2 (by omega)) 10000 0 (by omega) (by omega) (fun j h3 h4 => fl j (by omega) (by omega))
    rw [a1, a2, rF_some, rF_some, iI_nI, iI_nI]
    constructor <;> congr 1 <;> omega
  · rw [if_neg c, if_neg c]
    have a1 : fdn q 10000 = none := fdn_none 10000 (fun j hj => fl j (by omega) (by omega))
    have a2 : fup q 10000 0 = none := fup_none 10000 0 (fun j h3 hj => fl j (by omega) (by omega))
    rw [a1, a2]
    exact ⟨rfl, rfl⟩
