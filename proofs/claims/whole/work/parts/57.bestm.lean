/-! ===== the model goes through all orders ===== -/
def eN : Option (List Nat) → Int32
  | none => -1
  | some O => nI (numO O)
def eU (T : TD) : Option (List Nat) → Int64
  | none => 0
  | some O => jN (rV T O).1
def eL (T : TD) : Option (List Nat) → Int64
  | none => 1
  | some O => jN (rV T O).2
theorem num_b : ∀ (O : List Nat) a k, (∀ d ∈ O, d < 6) → a < 10 ^ k → O.foldl (fun a d => 10 * a + d + 1) a < 10 ^ (k + O.length)
  | [], a, k, _, h => h
  | d :: O, a, k, hd, h => by
    rw [List.foldl_cons, List.length_cons, show k + (O.length + 1) = k + 1 + O.length by omega]
    have := hd d (List.mem_cons_self ..)
    exact num_b O _ (k + 1) (fun x hx => hd x (List.mem_cons_of_mem _ hx)) (by rw [Nat.pow_succ]; omega)
theorem numO_b {O : List Nat} (h6 : O.length ≤ 6) (hd : ∀ d ∈ O, d < 6) : numO O < 2 ^ 31 := by
  have h := num_b O 0 0 hd (by decide)
  have h2 : 10 ^ (0 + O.length) ≤ 10 ^ 6 := Nat.pow_le_pow_right (by decide) (by omega)
  unfold numO
  omega
theorem m_ten (a d : Nat) : (10 : Int32) * nI a + nI d + 1 = nI (10 * a + d + 1) := by
  have e : (10 : Int32) * nI a = nI (10 * a) := pk_mul 10 a
  rw [e, nI_add, nI_1]
theorem drop_getD {O : List Nat} {i : Nat} (h : i < O.length) : O.drop i = O.getD i 0 :: O.drop (i + 1) := by
  rw [List.drop_eq_getElem_cons h, List.getD_eq_getElem?_getD, List.getElem?_eq_getElem h]
  rfl
theorem m_num {F : Nat → Int32} {A : Nat → Nat → Int32} {B : Nat → Nat → Int64} {nb : Nat} {O : List Nat} (hO : OrdA A nb O) (h60 : F 60 = nI O.length) (K : Nat → Int32 → Int64 → Int64 → Int32 → Sto → Option (Int32 × Sto)) : ∀ k i fuel a, i + k = O.length → k < fuel → fX12_bestOrder_b118 K fuel 0 (nI a) (nI i) (mkM F A B) = fX12_bestOrder_b148 K 0 (nI ((O.drop i).foldl (fun a d => 10 * a + d + 1) a)) (mkM F A B) := by
  have h6 := hO.1
  intro k
  induction k with
  | zero =>
    intro i fuel a h1 h2
    obtain ⟨fuel, rfl⟩ : ∃ q, fuel = q + 1 := ⟨fuel - 1, by omega⟩
    rw [fX12_bestOrder_b118]
    simp -implicitDefEqProofs (disch := first | assumption | omega | decide | exact And.intro (by omega) (by omega)) only [mck, mg_0, mp_0, mr_1, mg_2, mp_2, mr_3, mg_4, mp_4, mr_5, mr_6, mr_7, mr_8, mr_9, mg_10, mp_10, mg_11, mp_11, mg_12, mp_12, mg_13, mp_13, mg_14, mp_14, mg_15, mp_15, mg_16, mp_16, mg_17, mp_17, mg_18, mp_18, mg_19, mp_19, mg_20, mp_20, mr_21, mr_22, mr_23, mr_24, mr_25, mr_26, mr_27, mr_28, mr_29, mr_30, mr_31, mr_32, mg_33, mp_33, mr_34, mr_35, mr_36, mr_37, mr_38, mg_39, mp_39, mr_40, mr_41, mr_42, mg_43, mp_43, mr_44, mr_45, mg_46, mp_46, mr_47, mr_48, mg_49, mp_49, mg_50, mp_50, mg_51, mp_51, mr_52, mr_53, mr_54, mg_55, mp_55, mr_56, mr_57, mg_58, mp_58, mg_59, mp_59, mg_60, mp_60, mr_61, mg_62, mp_62, mr_63, mr_64, mr_65, mr_66, mr_67, mr_68, ma_1, ms_1, ma_2, ms_2, ma_3, ms_3, ma_4, ms_4, ma_5, ms_5, ma_6, ms_6, ma_7, ms_7, ma_8, ms_8, ma_9, ms_9, ma_10, ms_10, ma_11, ms_11, ma_12, ms_12, ma_13, ms_13, ma_14, ms_14, ma_15, ms_15, ma_16, ms_16, ma_17, ms_17, ma_18, ms_18, ma_19, ms_19, ma_20, ms_20, ma_21, ms_21, ma_22, ms_22, ma_23, ms_23, ma_24, ms_24, ma_25, ms_25, ma_26, ms_26, ma_27, ms_27, ma_28, ms_28, ma_29, ms_29, ma_30, ms_30, ma_31, ms_31, ma_32, ms_32, ma_33, ms_33, ma_34, ms_34, ma_35, ms_35, ma_36, ms_36, ma_37, ms_37, ma_38, ms_38, ma_39, ms_39, ma_40, ms_40, ma_41, ms_41, ma_42, ms_42, ma_43, ms_43, if_true, if_false, Option.bind_some, cb_e, lt_e, nI_1, hs_nar2, nh4, upd_at, vau_at, ma_30_18, ms_30_18, ma_31_18, ms_31_18, ma_28_0, ms_28_0, ma_28_1, ms_28_1, ma_28_2, ms_28_2, ma_28_3, ms_28_3, ma_28_4, ms_28_4, ma_42_0, ms_42_0, ma_42_1, ms_42_1, ma_42_2, ms_42_2, ma_36_0, ms_36_0, h60]
    rw [if_pos (nI_le (by omega) (by omega)), List.drop_eq_nil_of_le (by omega)]
    rfl
  | succ k ih =>
    intro i fuel a h1 h2
    obtain ⟨fuel, rfl⟩ : ∃ q, fuel = q + 1 := ⟨fuel - 1, by omega⟩
    have e1 := (hO.2 i (by omega)).1
    have hi6 : i < 6 := by omega
    rw [fX12_bestOrder_b118, drop_getD (by omega), List.foldl_cons]
    simp -implicitDefEqProofs (disch := first | assumption | omega | decide | exact And.intro (by omega) (by omega)) only [mck, mg_0, mp_0, mr_1, mg_2, mp_2, mr_3, mg_4, mp_4, mr_5, mr_6, mr_7, mr_8, mr_9, mg_10, mp_10, mg_11, mp_11, mg_12, mp_12, mg_13, mp_13, mg_14, mp_14, mg_15, mp_15, mg_16, mp_16, mg_17, mp_17, mg_18, mp_18, mg_19, mp_19, mg_20, mp_20, mr_21, mr_22, mr_23, mr_24, mr_25, mr_26, mr_27, mr_28, mr_29, mr_30, mr_31, mr_32, mg_33, mp_33, mr_34, mr_35, mr_36, mr_37, mr_38, mg_39, mp_39, mr_40, mr_41, mr_42, mg_43, mp_43, mr_44, mr_45, mg_46, mp_46, mr_47, mr_48, mg_49, mp_49, mg_50, mp_50, mg_51, mp_51, mr_52, mr_53, mr_54, mg_55, mp_55, mr_56, mr_57, mg_58, mp_58, mg_59, mp_59, mg_60, mp_60, mr_61, mg_62, mp_62, mr_63, mr_64, mr_65, mr_66, mr_67, mr_68, ma_1, ms_1, ma_2, ms_2, ma_3, ms_3, ma_4, ms_4, ma_5, ms_5, ma_6, ms_6, ma_7, ms_7, ma_8, ms_8, ma_9, ms_9, ma_10, ms_10, ma_11, ms_11, ma_12, ms_12, ma_13, ms_13, ma_14, ms_14, ma_15, ms_15, ma_16, ms_16, ma_17, ms_17, ma_18, ms_18, ma_19, ms_19, ma_20, ms_20, ma_21, ms_21, ma_22, ms_22, ma_23, ms_23, ma_24, ms_24, ma_25, ms_25, ma_26, ms_26, ma_27, ms_27, ma_28, ms_28, ma_29, ms_29, ma_30, ms_30, ma_31, ms_31, ma_32, ms_32, ma_33, ms_33, ma_34, ms_34, ma_35, ms_35, ma_36, ms_36, ma_37, ms_37, ma_38, ms_38, ma_39, ms_39, ma_40, ms_40, ma_41, ms_41, ma_42, ms_42, ma_43, ms_43, if_true, if_false, Option.bind_some, cb_e, lt_e, nI_1, hs_nar2, nh4, upd_at, vau_at, ma_30_18, ms_30_18, ma_31_18, ms_31_18, ma_28_0, ms_28_0, ma_28_1, ms_28_1, ma_28_2, ms_28_2, ma_28_3, ms_28_3, ma_28_4, ms_28_4, ma_42_0, ms_42_0, ma_42_1, ms_42_1, ma_42_2, ms_42_2, ma_36_0, ms_36_0, h60, e1]
    rw [if_neg (nI_ge (by omega) (by omega)), m_ten]
    exact ih (i + 1) fuel _ (by omega) (by omega)
theorem map_getD {S : Nat → Nat} {p : List Nat} {j : Nat} (h : j < p.length) : (p.map S).getD j 0 = S (p.getD j 0) := by
  rw [List.getD_eq_getElem?_getD, List.getElem?_map, List.getD_eq_getElem?_getD, List.getElem?_eq_getElem h]
  rfl
theorem getD_of {p : List Nat} {n : Nat} (h : ∀ j, j < p.length → p.getD j 0 < n) : ∀ d ∈ p, d < n := fun d hd => by
  obtain ⟨i, h1, h2⟩ := List.getElem_of_mem hd
  have := h i h1
  rw [List.getD_eq_getElem?_getD, List.getElem?_eq_getElem h1] at this
  rw [← h2]
  exact this
section MB
variable {F : Nat → Int32} {lv : Nat} {T : TD} {n : Nat} {S : Nat → Nat}
theorem m_best_step (hT : GoodT T) (h18 : F 18 = nI lv) (hlv : lv ≤ 1) (h60 : F 60 = nI n) (h6 : n ≤ 6) (hSn : ∀ a, a < n → S a < tNb T) {p : List Nat} {fuel : Nat} {acc : Option (List Nat)} (hacc : ∀ O, acc = some O → O.length ≤ 6 ∧ ∀ d ∈ O, d < tNb T) {A : Nat → Nat → Int32} (B : Nat → Nat → Int64) (hO : OrdS A n S p) (hx : MText A lv T) : ∃ B1, fX12_bestOrder_b83 (fuel + 1) 0 (eN acc) (eU T acc) (eL T acc) 1 (mkM F A B) = fX12_bestOrder_b159 (fX12_bestOrder_b83 fuel) 0 (eN (bst T acc (p.map S))) (eU T (bst T acc (p.map S))) (eL T (bst T acc (p.map S))) (mkM F A B1) ∧ ∀ d, ¬ d = 0 → B1 d = B d := by
  have hnb := hT.1
  have hpl := hO.1.1
  have hA : OrdA A (tNb T) (p.map S) := by
    refine ⟨by rw [List.length_map]; omega, fun j hj => ?_⟩
    rw [List.length_map] at hj
    rw [map_getD hj]
    exact ⟨hO.2 j (by omega), hSn _ (hO.1.2 j (by omega))⟩
  have hl : (p.map S).length = n := by rw [List.length_map, hpl]
  have h60' : F 60 = nI (p.map S).length := by rw [hl]; exact h60
  have hd : ∀ d ∈ p.map S, d < tNb T := getD_of (fun j hj => (hA.2 j hj).2)
  obtain ⟨B1, r1, r2, r3, r4⟩ := m_reaches B hT hx h18 hlv hA h60'
  have r2' : B1 0 58 = jN (rV T (p.map S)).1 := r2
  have r3' : B1 0 59 = jN (rV T (p.map S)).2 := r3
  have n10 : ¬ (1 : Int32) = 0 := by decide
  have h113 : ∀ K, fX12_bestOrder_b113 K 0 (mkM F A B1) = fX12_bestOrder_b159 K 0 (eN (some (p.map S))) (eU T (some (p.map S))) (eL T (some (p.map S))) (mkM F A B1) := fun K => by
    have e := m_num (B := B1) hA h60' K (p.map S).length 0 FU 0 (by omega) (by unfold FU; omega)
    unfold fX12_bestOrder_b113
    rw [show fX12_bestOrder_b118 K FU 0 0 0 (mkM F A B1) = _ from e]
    unfold fX12_bestOrder_b148
    simp -implicitDefEqProofs (disch := first | assumption | omega | decide | exact And.intro (by omega) (by omega)) only [mck, mg_0, mp_0, mr_1, mg_2, mp_2, mr_3, mg_4, mp_4, mr_5, mr_6, mr_7, mr_8, mr_9, mg_10, mp_10, mg_11, mp_11, mg_12, mp_12, mg_13, mp_13, mg_14, mp_14, mg_15, mp_15, mg_16, mp_16, mg_17, mp_17, mg_18, mp_18, mg_19, mp_19, mg_20, mp_20, mr_21, mr_22, mr_23, mr_24, mr_25, mr_26, mr_27, mr_28, mr_29, mr_30, mr_31, mr_32, mg_33, mp_33, mr_34, mr_35, mr_36, mr_37, mr_38, mg_39, mp_39, mr_40, mr_41, mr_42, mg_43, mp_43, mr_44, mr_45, mg_46, mp_46, mr_47, mr_48, mg_49, mp_49, mg_50, mp_50, mg_51, mp_51, mr_52, mr_53, mr_54, mg_55, mp_55, mr_56, mr_57, mg_58, mp_58, mg_59, mp_59, mg_60, mp_60, mr_61, mg_62, mp_62, mr_63, mr_64, mr_65, mr_66, mr_67, mr_68, ma_1, ms_1, ma_2, ms_2, ma_3, ms_3, ma_4, ms_4, ma_5, ms_5, ma_6, ms_6, ma_7, ms_7, ma_8, ms_8, ma_9, ms_9, ma_10, ms_10, ma_11, ms_11, ma_12, ms_12, ma_13, ms_13, ma_14, ms_14, ma_15, ms_15, ma_16, ms_16, ma_17, ms_17, ma_18, ms_18, ma_19, ms_19, ma_20, ms_20, ma_21, ms_21, ma_22, ms_22, ma_23, ms_23, ma_24, ms_24, ma_25, ms_25, ma_26, ms_26, ma_27, ms_27, ma_28, ms_28, ma_29, ms_29, ma_30, ms_30, ma_31, ms_31, ma_32, ms_32, ma_33, ms_33, ma_34, ms_34, ma_35, ms_35, ma_36, ms_36, ma_37, ms_37, ma_38, ms_38, ma_39, ms_39, ma_40, ms_40, ma_41, ms_41, ma_42, ms_42, ma_43, ms_43, if_true, if_false, Option.bind_some, cb_e, lt_e, nI_1, hs_nar2, nh4, upd_at, vau_at, ma_30_18, ms_30_18, ma_31_18, ms_31_18, ma_28_0, ms_28_0, ma_28_1, ms_28_1, ma_28_2, ms_28_2, ma_28_3, ms_28_3, ma_28_4, ms_28_4, ma_42_0, ms_42_0, ma_42_1, ms_42_1, ma_42_2, ms_42_2, ma_36_0, ms_36_0, r2', r3']
    rfl
  refine ⟨B1, ?_, r4⟩
  rw [fX12_bestOrder_b83, if_neg n10]
  cases acc with
  | none =>
    have nneg : (-1 : Int32) < 0 := by decide
    have e1 : eN none < 0 := nneg
    simp -implicitDefEqProofs (disch := first | assumption | omega | decide | exact And.intro (by omega) (by omega)) only [mck, mg_0, mp_0, mr_1, mg_2, mp_2, mr_3, mg_4, mp_4, mr_5, mr_6, mr_7, mr_8, mr_9, mg_10, mp_10, mg_11, mp_11, mg_12, mp_12, mg_13, mp_13, mg_14, mp_14, mg_15, mp_15, mg_16, mp_16, mg_17, mp_17, mg_18, mp_18, mg_19, mp_19, mg_20, mp_20, mr_21, mr_22, mr_23, mr_24, mr_25, mr_26, mr_27, mr_28, mr_29, mr_30, mr_31, mr_32, mg_33, mp_33, mr_34, mr_35, mr_36, mr_37, mr_38, mg_39, mp_39, mr_40, mr_41, mr_42, mg_43, mp_43, mr_44, mr_45, mg_46, mp_46, mr_47, mr_48, mg_49, mp_49, mg_50, mp_50, mg_51, mp_51, mr_52, mr_53, mr_54, mg_55, mp_55, mr_56, mr_57, mg_58, mp_58, mg_59, mp_59, mg_60, mp_60, mr_61, mg_62, mp_62, mr_63, mr_64, mr_65, mr_66, mr_67, mr_68, ma_1, ms_1, ma_2, ms_2, ma_3, ms_3, ma_4, ms_4, ma_5, ms_5, ma_6, ms_6, ma_7, ms_7, ma_8, ms_8, ma_9, ms_9, ma_10, ms_10, ma_11, ms_11, ma_12, ms_12, ma_13, ms_13, ma_14, ms_14, ma_15, ms_15, ma_16, ms_16, ma_17, ms_17, ma_18, ms_18, ma_19, ms_19, ma_20, ms_20, ma_21, ms_21, ma_22, ms_22, ma_23, ms_23, ma_24, ms_24, ma_25, ms_25, ma_26, ms_26, ma_27, ms_27, ma_28, ms_28, ma_29, ms_29, ma_30, ms_30, ma_31, ms_31, ma_32, ms_32, ma_33, ms_33, ma_34, ms_34, ma_35, ms_35, ma_36, ms_36, ma_37, ms_37, ma_38, ms_38, ma_39, ms_39, ma_40, ms_40, ma_41, ms_41, ma_42, ms_42, ma_43, ms_43, if_true, if_false, Option.bind_some, cb_e, lt_e, nI_1, hs_nar2, nh4, upd_at, vau_at, ma_30_18, ms_30_18, ma_31_18, ms_31_18, ma_28_0, ms_28_0, ma_28_1, ms_28_1, ma_28_2, ms_28_2, ma_28_3, ms_28_3, ma_28_4, ms_28_4, ma_42_0, ms_42_0, ma_42_1, ms_42_1, ma_42_2, ms_42_2, ma_36_0, ms_36_0, r1, if_pos e1]
    exact h113 _
  | some O' =>
    obtain ⟨o1, o2⟩ := hacc O' rfl
    have f1 := rV_ok hT o1 o2
    have f2 := rV_ok hT (O := p.map S) (by omega) hd
    have b1 := f1.lt o1
    have b3 := f2.lt (by omega)
    have nneg : ¬ eN (some O') < 0 := nI_pos (numO_b o1 (fun d hd => by have := o2 d hd; omega))
    have im : ∀ σ, fX12_isMore (jN (rV T (p.map S)).1) (jN (rV T (p.map S)).2) (eU T (some O')) (eL T (some O')) σ = some (b2 (lessF (rV T O') (rV T (p.map S))), σ) := fun σ => m_isMore f2.1 f1.1 b3.1 b3.2 b1.1 b1.2
    simp -implicitDefEqProofs (disch := first | assumption | omega | decide | exact And.intro (by omega) (by omega)) only [mck, mg_0, mp_0, mr_1, mg_2, mp_2, mr_3, mg_4, mp_4, mr_5, mr_6, mr_7, mr_8, mr_9, mg_10, mp_10, mg_11, mp_11, mg_12, mp_12, mg_13, mp_13, mg_14, mp_14, mg_15, mp_15, mg_16, mp_16, mg_17, mp_17, mg_18, mp_18, mg_19, mp_19, mg_20, mp_20, mr_21, mr_22, mr_23, mr_24, mr_25, mr_26, mr_27, mr_28, mr_29, mr_30, mr_31, mr_32, mg_33, mp_33, mr_34, mr_35, mr_36, mr_37, mr_38, mg_39, mp_39, mr_40, mr_41, mr_42, mg_43, mp_43, mr_44, mr_45, mg_46, mp_46, mr_47, mr_48, mg_49, mp_49, mg_50, mp_50, mg_51, mp_51, mr_52, mr_53, mr_54, mg_55, mp_55, mr_56, mr_57, mg_58, mp_58, mg_59, mp_59, mg_60, mp_60, mr_61, mg_62, mp_62, mr_63, mr_64, mr_65, mr_66, mr_67, mr_68, ma_1, ms_1, ma_2, ms_2, ma_3, ms_3, ma_4, ms_4, ma_5, ms_5, ma_6, ms_6, ma_7, ms_7, ma_8, ms_8, ma_9, ms_9, ma_10, ms_10, ma_11, ms_11, ma_12, ms_12, ma_13, ms_13, ma_14, ms_14, ma_15, ms_15, ma_16, ms_16, ma_17, ms_17, ma_18, ms_18, ma_19, ms_19, ma_20, ms_20, ma_21, ms_21, ma_22, ms_22, ma_23, ms_23, ma_24, ms_24, ma_25, ms_25, ma_26, ms_26, ma_27, ms_27, ma_28, ms_28, ma_29, ms_29, ma_30, ms_30, ma_31, ms_31, ma_32, ms_32, ma_33, ms_33, ma_34, ms_34, ma_35, ms_35, ma_36, ms_36, ma_37, ms_37, ma_38, ms_38, ma_39, ms_39, ma_40, ms_40, ma_41, ms_41, ma_42, ms_42, ma_43, ms_43, if_true, if_false, Option.bind_some, cb_e, lt_e, nI_1, hs_nar2, nh4, upd_at, vau_at, ma_30_18, ms_30_18, ma_31_18, ms_31_18, ma_28_0, ms_28_0, ma_28_1, ms_28_1, ma_28_2, ms_28_2, ma_28_3, ms_28_3, ma_28_4, ms_28_4, ma_42_0, ms_42_0, ma_42_1, ms_42_1, ma_42_2, ms_42_2, ma_36_0, ms_36_0, r1, if_neg nneg, r2', r3', im]
    unfold bst bsX
    cases hc : lessF (rV T O') (rV T (p.map S)) with
    | true =>
      rw [if_neg (show ¬ b2 true = 0 by decide), h113]
      simp only [hc, if_true]
    | false =>
      rw [if_pos (show b2 false = 0 by decide)]
      simp only [hc, Bool.false_eq_true, if_false]
theorem bst_acc {acc : Option (List Nat)} {O : List Nat} (hacc : ∀ O, acc = some O → O.length ≤ 6 ∧ ∀ d ∈ O, d < tNb T) (hO : O.length ≤ 6 ∧ ∀ d ∈ O, d < tNb T) : ∀ O', bst T acc O = some O' → O'.length ≤ 6 ∧ ∀ d ∈ O', d < tNb T := by
  intro O' h
  cases acc with
  | none => cases h; exact hO
  | some a =>
    unfold bst at h
    rw [bsX] at h
    by_cases c : lessF (rV T a) (rV T O) = true
    · rw [if_pos c] at h
      cases h
      exact hO
    · rw [if_neg c] at h
      cases h
      exact hacc _ rfl
theorem m_best_go (hT : GoodT T) (h18 : F 18 = nI lv) (hlv : lv ≤ 1) (h60 : F 60 = nI n) (h0 : 0 < n) (h6 : n ≤ 6) (hS : Mono n S) (hSn : ∀ a, a < n → S a < tNb T) : ∀ (r : List (List Nat)) (p : List Nat) fuel acc, chn (p :: r) = true → (∀ q ∈ p :: r, q.length = n ∧ ∀ d ∈ q, d < n) → r.length + 1 < fuel → (∀ O, acc = some O → O.length ≤ 6 ∧ ∀ d ∈ O, d < tNb T) → ∀ (A : Nat → Nat → Int32) (B : Nat → Nat → Int64), OrdS A n S p → MText A lv T → ∃ A' B', fX12_bestOrder_b83 fuel 0 (eN acc) (eU T acc) (eL T acc) 1 (mkM F A B) = some (eN (((p :: r).map (List.map S)).foldl (bst T) acc), mkM F A' B') ∧ (∀ c, ¬ c = 37 → A' c = A c) ∧ ∀ d, ¬ d = 0 → B' d = B d := by
  intro r
  induction r with
  | nil =>
    intro p fuel acc hch hq hf hacc A B hO hx
    obtain ⟨fuel, rfl⟩ : ∃ q, fuel = q + 1 + 1 := ⟨fuel - 2, by have : ([] : List (List Nat)).length = 0 := rfl; omega⟩
    obtain ⟨B1, s1, s2⟩ := m_best_step hT h18 hlv h60 h6 hSn (fuel := fuel + 1) hacc B hO hx
    have nn : nxt p = none := by rw [chn] at hch; exact of_decide_eq_true hch
    have nx := (m_nextOrder (F := F) (B := B1) h0 h6 hS hO h60).1 nn
    refine ⟨A, B1, ?_, fun _ _ => rfl, s2⟩
    rw [s1]
    unfold fX12_bestOrder_b159
    simp -implicitDefEqProofs (disch := first | assumption | omega | decide | exact And.intro (by omega) (by omega)) only [mck, mg_0, mp_0, mr_1, mg_2, mp_2, mr_3, mg_4, mp_4, mr_5, mr_6, mr_7, mr_8, mr_9, mg_10, mp_10, mg_11, mp_11, mg_12, mp_12, mg_13, mp_13, mg_14, mp_14, mg_15, mp_15, mg_16, mp_16, mg_17, mp_17, mg_18, mp_18, mg_19, mp_19, mg_20, mp_20, mr_21, mr_22, mr_23, mr_24, mr_25, mr_26, mr_27, mr_28, mr_29, mr_30, mr_31, mr_32, mg_33, mp_33, mr_34, mr_35, mr_36, mr_37, mr_38, mg_39, mp_39, mr_40, mr_41, mr_42, mg_43, mp_43, mr_44, mr_45, mg_46, mp_46, mr_47, mr_48, mg_49, mp_49, mg_50, mp_50, mg_51, mp_51, mr_52, mr_53, mr_54, mg_55, mp_55, mr_56, mr_57, mg_58, mp_58, mg_59, mp_59, mg_60, mp_60, mr_61, mg_62, mp_62, mr_63, mr_64, mr_65, mr_66, mr_67, mr_68, ma_1, ms_1, ma_2, ms_2, ma_3, ms_3, ma_4, ms_4, ma_5, ms_5, ma_6, ms_6, ma_7, ms_7, ma_8, ms_8, ma_9, ms_9, ma_10, ms_10, ma_11, ms_11, ma_12, ms_12, ma_13, ms_13, ma_14, ms_14, ma_15, ms_15, ma_16, ms_16, ma_17, ms_17, ma_18, ms_18, ma_19, ms_19, ma_20, ms_20, ma_21, ms_21, ma_22, ms_22, ma_23, ms_23, ma_24, ms_24, ma_25, ms_25, ma_26, ms_26, ma_27, ms_27, ma_28, ms_28, ma_29, ms_29, ma_30, ms_30, ma_31, ms_31, ma_32, ms_32, ma_33, ms_33, ma_34, ms_34, ma_35, ms_35, ma_36, ms_36, ma_37, ms_37, ma_38, ms_38, ma_39, ms_39, ma_40, ms_40, ma_41, ms_41, ma_42, ms_42, ma_43, ms_43, if_true, if_false, Option.bind_some, cb_e, lt_e, nI_1, hs_nar2, nh4, upd_at, vau_at, ma_30_18, ms_30_18, ma_31_18, ms_31_18, ma_28_0, ms_28_0, ma_28_1, ms_28_1, ma_28_2, ms_28_2, ma_28_3, ms_28_3, ma_28_4, ms_28_4, ma_42_0, ms_42_0, ma_42_1, ms_42_1, ma_42_2, ms_42_2, ma_36_0, ms_36_0, nx]
    rw [fX12_bestOrder_b83, if_pos rfl]
    rfl
  | cons p2 r ih =>
    intro p fuel acc hch hq hf hacc A B hO hx
    obtain ⟨fuel, rfl⟩ : ∃ q, fuel = q + 1 := ⟨fuel - 1, by omega⟩
    obtain ⟨B1, s1, s2⟩ := m_best_step hT h18 hlv h60 h6 hSn (fuel := fuel) hacc B hO hx
    rw [chn, Bool.and_eq_true] at hch
    have nn : nxt p = some p2 := of_decide_eq_true hch.1
    obtain ⟨A1, x1, x2, x3⟩ := (m_nextOrder (F := F) (B := B1) h0 h6 hS hO h60).2 p2 nn
    have q2 := hq p2 (List.mem_cons_of_mem _ (List.mem_cons_self ..))
    have q1 := hq p (List.mem_cons_self ..)
    have hO2 : OrdS A1 n S p2 := x2 q2.1 q2.2
    have okp : (p.map S).length ≤ 6 ∧ ∀ d ∈ p.map S, d < tNb T := ⟨by rw [List.length_map]; omega, fun d hd => by
      obtain ⟨a, ha, rfl⟩ := List.mem_map.1 hd
      exact hSn a (q1.2 a ha)⟩
    rw [List.length_cons] at hf
    obtain ⟨A2, B2, z1, z2, z3⟩ := ih p2 fuel (bst T acc (p.map S)) hch.2 (fun q hq2 => hq q (List.mem_cons_of_mem _ hq2)) (by omega) (bst_acc hacc okp) A1 B1 hO2 (hx.eq (fun c hc => x3 c (by unfold KM at hc; omega)))
    refine ⟨A2, B2, ?_, fun c hc => by rw [z2 c hc, x3 c hc], fun d hd => by rw [z3 d hd, s2 d hd]⟩
    rw [s1]
    unfold fX12_bestOrder_b159
    simp -implicitDefEqProofs (disch := first | assumption | omega | decide | exact And.intro (by omega) (by omega)) only [mck, mg_0, mp_0, mr_1, mg_2, mp_2, mr_3, mg_4, mp_4, mr_5, mr_6, mr_7, mr_8, mr_9, mg_10, mp_10, mg_11, mp_11, mg_12, mp_12, mg_13, mp_13, mg_14, mp_14, mg_15, mp_15, mg_16, mp_16, mg_17, mp_17, mg_18, mp_18, mg_19, mp_19, mg_20, mp_20, mr_21, mr_22, mr_23, mr_24, mr_25, mr_26, mr_27, mr_28, mr_29, mr_30, mr_31, mr_32, mg_33, mp_33, mr_34, mr_35, mr_36, mr_37, mr_38, mg_39, mp_39, mr_40, mr_41, mr_42, mg_43, mp_43, mr_44, mr_45, mg_46, mp_46, mr_47, mr_48, mg_49, mp_49, mg_50, mp_50, mg_51, mp_51, mr_52, mr_53, mr_54, mg_55, mp_55, mr_56, mr_57, mg_58, mp_58, mg_59, mp_59, mg_60, mp_60, mr_61, mg_62, mp_62, mr_63, mr_64, mr_65, mr_66, mr_67, mr_68, ma_1, ms_1, ma_2, ms_2, ma_3, ms_3, ma_4, ms_4, ma_5, ms_5, ma_6, ms_6, ma_7, ms_7, ma_8, ms_8, ma_9, ms_9, ma_10, ms_10, ma_11, ms_11, ma_12, ms_12, ma_13, ms_13, ma_14, ms_14, ma_15, ms_15, ma_16, ms_16, ma_17, ms_17, ma_18, ms_18, ma_19, ms_19, ma_20, ms_20, ma_21, ms_21, ma_22, ms_22, ma_23, ms_23, ma_24, ms_24, ma_25, ms_25, ma_26, ms_26, ma_27, ms_27, ma_28, ms_28, ma_29, ms_29, ma_30, ms_30, ma_31, ms_31, ma_32, ms_32, ma_33, ms_33, ma_34, ms_34, ma_35, ms_35, ma_36, ms_36, ma_37, ms_37, ma_38, ms_38, ma_39, ms_39, ma_40, ms_40, ma_41, ms_41, ma_42, ms_42, ma_43, ms_43, if_true, if_false, Option.bind_some, cb_e, lt_e, nI_1, hs_nar2, nh4, upd_at, vau_at, ma_30_18, ms_30_18, ma_31_18, ms_31_18, ma_28_0, ms_28_0, ma_28_1, ms_28_1, ma_28_2, ms_28_2, ma_28_3, ms_28_3, ma_28_4, ms_28_4, ma_42_0, ms_42_0, ma_42_1, ms_42_1, ma_42_2, ms_42_2, ma_36_0, ms_36_0, x1]
    rw [z1]
    rfl
end MB
theorem prm_len : ∀ n, n ≤ 6 → (prm n (List.range n)).length ≤ 720 := by decide +kernel
theorem prm_head : ∀ n, n ≤ 6 → (prm n (List.range n)).head? = some (List.range n) := by decide +kernel
theorem bits_getD {s n j : Nat} : (bitsL s n ++ [n]).getD j 0 = if j < (bitsL s n).length then (bitsL s n).getD j 0 else if j = (bitsL s n).length then n else 0 := by
  by_cases c : j < (bitsL s n).length
  · rw [if_pos c, List.getD_eq_getElem?_getD, List.getElem?_append_left c, List.getD_eq_getElem?_getD]
  · rw [if_neg c, List.getD_eq_getElem?_getD, List.getElem?_append_right (by omega)]
    by_cases c2 : j = (bitsL s n).length
    · rw [if_pos c2, c2, Nat.sub_self]; rfl
    · rw [if_neg c2, List.getElem?_eq_none (by rw [List.length_singleton]; omega)]
      rfl
theorem bitsL_len (s : Nat) : ∀ i, (bitsL s i).length ≤ i
  | 0 => Nat.le_refl 0
  | i + 1 => by
    have := bitsL_len s i
    rw [bitsL_s, List.length_append]
    split
    · rw [List.length_singleton]; omega
    · rw [List.length_nil]; omega
/-- the model puts the books of the set into its row -/
theorem m_set_go {B : Nat → Nat → Int64} {s : Nat} (hs : s < 64) : ∀ k i fuel, i + k = 6 → k < fuel → ∀ (F : Nat → Int32) (A : Nat → Nat → Int32), F 60 = nI (bitsL s i).length → (∀ j, j < (bitsL s i).length → A 37 j = nI ((bitsL s i).getD j 0)) → ∃ F' A', fX12_bestOrder_b30 fuel 0 (nI s) (nI i) (mkM F A B) = fX12_bestOrder_b73 0 (mkM F' A' B) ∧ F' 60 = nI (bitsL s 6).length ∧ (∀ j, j < (bitsL s 6).length → A' 37 j = nI ((bitsL s 6).getD j 0)) ∧ (∀ k, ¬ k = 60 → F' k = F k) ∧ ∀ c, ¬ c = 37 → A' c = A c := by
  intro k
  induction k with
  | zero =>
    intro i fuel h1 h2 F A e1 e2
    obtain ⟨fuel, rfl⟩ : ∃ q, fuel = q + 1 := ⟨fuel - 1, by omega⟩
    have : i = 6 := by omega
    subst this
    rw [fX12_bestOrder_b30, if_pos (by decide)]
    exact ⟨F, A, rfl, e1, e2, fun _ _ => rfl, fun _ _ => rfl⟩
  | succ k ih =>
    intro i fuel h1 h2 F A e1 e2
    obtain ⟨fuel, rfl⟩ : ∃ q, fuel = q + 1 := ⟨fuel - 1, by omega⟩
    have hb := bit_m s hs i (by omega)
    have hl := bitsL_len s i
    have hl6 : (bitsL s i).length < 6 := by omega
    have es := bitsL_s s i
    rw [fX12_bestOrder_b30, if_neg (show ¬ (6 : Int32) ≤ nI i from nI_ge (b := 6) (by omega) (by decide)), hb]
    unfold fX12_bestOrder_b67
    by_cases c : s / 2 ^ i % 2 = 1
    · rw [if_pos c] at es
      rw [if_neg (show ¬ nI (s / 2 ^ i % 2) = 0 by rw [c]; decide)]
      simp -implicitDefEqProofs (disch := first | assumption | omega | decide | exact And.intro (by omega) (by omega)) only [mck, mg_0, mp_0, mr_1, mg_2, mp_2, mr_3, mg_4, mp_4, mr_5, mr_6, mr_7, mr_8, mr_9, mg_10, mp_10, mg_11, mp_11, mg_12, mp_12, mg_13, mp_13, mg_14, mp_14, mg_15, mp_15, mg_16, mp_16, mg_17, mp_17, mg_18, mp_18, mg_19, mp_19, mg_20, mp_20, mr_21, mr_22, mr_23, mr_24, mr_25, mr_26, mr_27, mr_28, mr_29, mr_30, mr_31, mr_32, mg_33, mp_33, mr_34, mr_35, mr_36, mr_37, mr_38, mg_39, mp_39, mr_40, mr_41, mr_42, mg_43, mp_43, mr_44, mr_45, mg_46, mp_46, mr_47, mr_48, mg_49, mp_49, mg_50, mp_50, mg_51, mp_51, mr_52, mr_53, mr_54, mg_55, mp_55, mr_56, mr_57, mg_58, mp_58, mg_59, mp_59, mg_60, mp_60, mr_61, mg_62, mp_62, mr_63, mr_64, mr_65, mr_66, mr_67, mr_68, ma_1, ms_1, ma_2, ms_2, ma_3, ms_3, ma_4, ms_4, ma_5, ms_5, ma_6, ms_6, ma_7, ms_7, ma_8, ms_8, ma_9, ms_9, ma_10, ms_10, ma_11, ms_11, ma_12, ms_12, ma_13, ms_13, ma_14, ms_14, ma_15, ms_15, ma_16, ms_16, ma_17, ms_17, ma_18, ms_18, ma_19, ms_19, ma_20, ms_20, ma_21, ms_21, ma_22, ms_22, ma_23, ms_23, ma_24, ms_24, ma_25, ms_25, ma_26, ms_26, ma_27, ms_27, ma_28, ms_28, ma_29, ms_29, ma_30, ms_30, ma_31, ms_31, ma_32, ms_32, ma_33, ms_33, ma_34, ms_34, ma_35, ms_35, ma_36, ms_36, ma_37, ms_37, ma_38, ms_38, ma_39, ms_39, ma_40, ms_40, ma_41, ms_41, ma_42, ms_42, ma_43, ms_43, if_true, if_false, Option.bind_some, cb_e, lt_e, nI_1, hs_nar2, nh4, upd_at, vau_at, ma_30_18, ms_30_18, ma_31_18, ms_31_18, ma_28_0, ms_28_0, ma_28_1, ms_28_1, ma_28_2, ms_28_2, ma_28_3, ms_28_3, ma_28_4, ms_28_4, ma_42_0, ms_42_0, ma_42_1, ms_42_1, ma_42_2, ms_42_2, ma_36_0, ms_36_0, e1]
      obtain ⟨F', A', z1, z2, z3, z4, z5⟩ := ih (i + 1) fuel (by omega) (by omega) (upd F 60 (nI ((bitsL s i).length + 1))) (va_up A 37 (upd (A 37) (bitsL s i).length (nI i))) (by rw [upd_at, es, List.length_append]; rfl) (fun j hj => by
        rw [es, List.length_append, List.length_singleton] at hj
        rw [es, bits_getD, vau_at]
        by_cases cj : j = (bitsL s i).length
        · rw [cj, upd_at, if_neg (by omega), if_pos rfl]
        · rw [upd_ne cj, if_pos (by omega)]
          exact e2 j (by omega))
      exact ⟨F', A', z1, z2, z3, fun k hk => by rw [z4 k hk, upd_ne hk], fun c hc => by rw [z5 c hc, vau_ne hc]⟩
    · rw [if_neg c, List.append_nil] at es
      rw [if_pos (show nI (s / 2 ^ i % 2) = 0 by rw [show s / 2 ^ i % 2 = 0 by omega]; rfl), nI_1]
      exact ih (i + 1) fuel (by omega) (by omega) F A (by rw [es]; exact e1) (fun j hj => by rw [es] at hj ⊢; exact e2 j hj)
theorem m_best {F : Nat → Int32} {A : Nat → Nat → Int32} (B : Nat → Nat → Int64) {lv : Nat} {T : TD} (hT : GoodT T) (hx : MText A lv T) (h18 : F 18 = nI lv) (hlv : lv ≤ 1) {s : Nat} (h0 : 0 < s) (hs : s < 64) (hn : s < 2 ^ tNb T) : ∃ F' A' B', fX12_bestOrder_b30 FU 0 (nI s) 0 (mkM (upd F 60 0) A B) = some (nI (numO (dpo T (pc s) s)), mkM F' A' B') ∧ MR F F' A A' B B' := by
  obtain ⟨F1, A1, z1, z2, z3, z4, z5⟩ := m_set_go (B := B) hs 6 0 FU (by omega) (by decide) (upd F 60 0) A (by rw [upd_at]; rfl) (fun j hj => (by cases hj))
  have p0 := pc_0 s hs
  have pp : 0 < pc s := Nat.pos_of_ne_zero (fun q => by have := p0.1.1 q; omega)
  have hS : Mono (pc s) (fun a => (bitsL s 6).getD a 0) := fun a b ha hb => mono_bits s hs a ha b hb
  have hSn : ∀ a, a < pc s → (bitsL s 6).getD a 0 < tNb T := fun a ha => by
    have hm : (bitsL s 6).getD a 0 ∈ bitsL s 6 := by
      rw [List.getD_eq_getElem?_getD, List.getElem?_eq_getElem ha]
      exact List.getElem_mem ha
    have := bitsL_mem.1 hm
    exact Nat.lt_of_not_le (fun q => bit_z (tNb T) hT.1 s hn _ this.1 q this.2)
  have hh := prm_head (pc s) p0.2
  cases hq : prm (pc s) (List.range (pc s)) with
  | nil => rw [hq] at hh; cases hh
  | cons p r =>
    rw [hq] at hh
    have hp : p = List.range (pc s) := Option.some.inj hh
    have hch := chn_ok (pc s) p0.2
    have hok := prm_ok (pc s) p0.2
    have hln := prm_len (pc s) p0.2
    rw [hq] at hch hok hln
    rw [List.length_cons] at hln
    have hO : OrdS A1 (pc s) (fun a => (bitsL s 6).getD a 0) p := by
      rw [hp]
      refine ⟨⟨List.length_range, fun j hj => ?_⟩, fun j hj => ?_⟩
      · have := getD_rng hj (fun a => a)
        rw [List.map_id'] at this
        rw [this]
        exact hj
      · have := getD_rng hj (fun a => a)
        rw [List.map_id'] at this
        rw [this]
        exact z3 j hj
    have hx1 : MText A1 lv T := hx.eq (fun c hc => z5 c (by unfold KM at hc; omega))
    have k18 : F1 18 = nI lv := by rw [z4 18 (by decide), upd_ne (by decide)]; exact h18
    obtain ⟨A2, B2, g1, g2, g3⟩ := m_best_go (F := F1) hT k18 hlv z2 pp p0.2 hS hSn r p FU none hch hok (by unfold FU; omega) (fun O hO => (by cases hO)) A1 B hO hx1
    refine ⟨F1, A2, B2, ?_, fun k hk => by rw [z4 k hk, upd_ne hk], fun c hc => by rw [g2 c hc, z5 c hc], g3⟩
    rw [show fX12_bestOrder_b30 FU 0 (nI s) 0 (mkM (upd F 60 0) A B) = _ from z1]
    unfold fX12_bestOrder_b73
    rw [show fX12_bestOrder_b83 FU 0 (-1) 0 1 1 (mkM F1 A1 B) = _ from g1, ← hq, ← prm_map, ← bits_rng s hs, prm_best hT (pc s) s hs hn rfl]
    rfl
