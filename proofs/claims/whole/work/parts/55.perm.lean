/-! ===== orders one behind another ===== -/
def picks : List Nat → List (Nat × List Nat)
  | [] => []
  | x :: l => (x, l) :: (picks l).map (fun q => (q.1, x :: q.2))
def prm : Nat → List Nat → List (List Nat)
  | 0, _ => [[]]
  | n + 1, l => (picks l).flatMap (fun q => (prm n q.2).map (fun p => q.1 :: p))
def swp (l : List Nat) (i j k : Nat) : Nat := if k = j then l.getD i 0 else if k = i then l.getD j 0 else l.getD k 0
def nxt (l : List Nat) : Option (List Nat) := match fdn (fun i => decide (l.getD i 0 ≤ l.getD (i + 1) 0)) (l.length - 1) with
  | none => none
  | some i => match fdn (fun j => decide (l.getD i 0 ≤ l.getD j 0)) l.length with
    | none => none
    | some j => some ((List.range l.length).map (fun k => if i < k then swp l i j (i + l.length - k) else swp l i j k))
def chn : List (List Nat) → Bool
  | [] => true
  | [a] => decide (nxt a = none)
  | a :: b :: r => decide (nxt a = some b) && chn (b :: r)
theorem chn_ok : ∀ n, n ≤ 6 → chn (prm n (List.range n)) = true := by decide +kernel
theorem prm_ok : ∀ n, n ≤ 6 → ∀ p ∈ prm n (List.range n), p.length = n ∧ ∀ d ∈ p, d < n := by decide +kernel
theorem fdn_lt {q : Nat → Bool} : ∀ k i, fdn q k = some i → i < k ∧ q i = true
  | 0, i, h => by cases h
  | k + 1, i, h => by
    rw [fdn] at h
    by_cases c : q k = true
    · rw [if_pos c] at h
      cases h
      exact ⟨by omega, c⟩
    · rw [if_neg c] at h
      have := fdn_lt k i h
      exact ⟨by omega, this.2⟩
theorem fdn_congr {q q' : Nat → Bool} : ∀ k, (∀ j, j < k → q j = q' j) → fdn q k = fdn q' k
  | 0, _ => rfl
  | k + 1, h => by
    rw [fdn, fdn, h k (by omega), fdn_congr k (fun j hj => h j (by omega))]
/-- the order of the model: the books S of the places p -/
def OrdS (A : Nat → Nat → Int32) (n : Nat) (S : Nat → Nat) (p : List Nat) : Prop := (p.length = n ∧ ∀ j, j < n → p.getD j 0 < n) ∧ ∀ j, j < n → A 37 j = nI (S (p.getD j 0))
def Mono (n : Nat) (S : Nat → Nat) : Prop := ∀ a b, a < n → b < n → (S a ≤ S b ↔ a ≤ b) ∧ S a < 6
theorem m_next9 {F : Nat → Int32} {A : Nat → Nat → Int32} {B : Nat → Nat → Int64} {n : Nat} (h6 : n ≤ 6) {S : Nat → Nat} (hS : Mono n S) {p : List Nat} (hO : OrdS A n S p) : ∀ m fuel, m + 1 ≤ n → m < fuel → (fdn (fun i => decide (p.getD i 0 ≤ p.getD (i + 1) 0)) m = none → fX12_nextOrder_b9 fuel 0 (nI n) (nI m + (-1)) (mkM F A B) = some (0, mkM F A B)) ∧ ∀ i, fdn (fun i => decide (p.getD i 0 ≤ p.getD (i + 1) 0)) m = some i → fX12_nextOrder_b9 fuel 0 (nI n) (nI m + (-1)) (mkM F A B) = fX12_nextOrder_b46 FU 0 (nI n) (nI i) (nI n + (-1)) (mkM F A B) := by
  intro m
  induction m with
  | zero =>
    intro fuel h1 h2
    obtain ⟨fuel, rfl⟩ : ∃ q, fuel = q + 1 := ⟨fuel - 1, by omega⟩
    refine ⟨fun _ => ?_, fun i hi => by cases hi⟩
    rw [fX12_nextOrder_b9, if_pos (by decide)]
    unfold fX12_nextOrder_b36
    rw [if_neg (by decide)]
  | succ m ih =>
    intro fuel h1 h2
    obtain ⟨fuel, rfl⟩ : ∃ q, fuel = q + 1 := ⟨fuel - 1, by omega⟩
    have e1 := hO.2 m (by omega)
    have e2 := hO.2 (m + 1) (by omega)
    have l1 := hO.1.2 m (by omega)
    have l2 := hO.1.2 (m + 1) (by omega)
    have s1 := hS _ _ l1 l2
    have s2 := hS _ _ l2 l1
    have hm6 : m < 6 := by omega
    have hm7 : m + 1 < 6 := by omega
    have es : nI n - 1 = nI n + (-1) := Int32.sub_eq_add_neg _ _
    rw [pk_m1, fX12_nextOrder_b9, if_neg (nI_pos (by omega)), fdn]
    simp -implicitDefEqProofs (disch := first | assumption | omega | decide | exact And.intro (by omega) (by omega)) only [mck, mg_0, mp_0, mr_1, mg_2, mp_2, mr_3, mg_4, mp_4, mr_5, mr_6, mr_7, mr_8, mr_9, mg_10, mp_10, mg_11, mp_11, mg_12, mp_12, mg_13, mp_13, mg_14, mp_14, mg_15, mp_15, mg_16, mp_16, mg_17, mp_17, mg_18, mp_18, mg_19, mp_19, mg_20, mp_20, mr_21, mr_22, mr_23, mr_24, mr_25, mr_26, mr_27, mr_28, mr_29, mr_30, mr_31, mr_32, mg_33, mp_33, mr_34, mr_35, mr_36, mr_37, mr_38, mg_39, mp_39, mr_40, mr_41, mr_42, mg_43, mp_43, mr_44, mr_45, mg_46, mp_46, mr_47, mr_48, mg_49, mp_49, mg_50, mp_50, mg_51, mp_51, mr_52, mr_53, mr_54, mg_55, mp_55, mr_56, mr_57, mg_58, mp_58, mg_59, mp_59, mg_60, mp_60, mr_61, mg_62, mp_62, mr_63, mr_64, mr_65, mr_66, mr_67, mr_68, ma_1, ms_1, ma_2, ms_2, ma_3, ms_3, ma_4, ms_4, ma_5, ms_5, ma_6, ms_6, ma_7, ms_7, ma_8, ms_8, ma_9, ms_9, ma_10, ms_10, ma_11, ms_11, ma_12, ms_12, ma_13, ms_13, ma_14, ms_14, ma_15, ms_15, ma_16, ms_16, ma_17, ms_17, ma_18, ms_18, ma_19, ms_19, ma_20, ms_20, ma_21, ms_21, ma_22, ms_22, ma_23, ms_23, ma_24, ms_24, ma_25, ms_25, ma_26, ms_26, ma_27, ms_27, ma_28, ms_28, ma_29, ms_29, ma_30, ms_30, ma_31, ms_31, ma_32, ms_32, ma_33, ms_33, ma_34, ms_34, ma_35, ms_35, ma_36, ms_36, ma_37, ms_37, ma_38, ms_38, ma_39, ms_39, ma_40, ms_40, ma_41, ms_41, ma_42, ms_42, ma_43, ms_43, if_true, if_false, Option.bind_some, cb_e, lt_e, nI_1, hs_nar2, nh4, upd_at, vau_at, ma_30_18, ms_30_18, ma_31_18, ms_31_18, ma_28_0, ms_28_0, ma_28_1, ms_28_1, ma_28_2, ms_28_2, ma_28_3, ms_28_3, ma_28_4, ms_28_4, ma_42_0, ms_42_0, ma_42_1, ms_42_1, ma_42_2, ms_42_2, ma_36_0, ms_36_0, e1, e2]
    by_cases c : p.getD m 0 ≤ p.getD (m + 1) 0
    · rw [if_pos (by exact decide_eq_true c), if_pos (nI_le (s1.1.2 c) (by omega))]
      refine ⟨fun h => (by cases h), fun i hi => ?_⟩
      cases hi
      unfold fX12_nextOrder_b36
      rw [if_pos (nI_pos' (by omega)), lt_e, es]
    · rw [if_neg (by simpa using c), if_neg (nI_ge (by have := s1.1; omega) (by omega))]
      exact ih fuel (by omega) (by omega)
theorem m_next46 {F : Nat → Int32} {A : Nat → Nat → Int32} {B : Nat → Nat → Int64} {n : Nat} (h6 : n ≤ 6) {S : Nat → Nat} (hS : Mono n S) {p : List Nat} (hO : OrdS A n S p) {i : Nat} (hi : i < n) : ∀ m fuel, i < m → m ≤ n → m < fuel → ∃ j, fdn (fun j => decide (p.getD i 0 ≤ p.getD j 0)) m = some j ∧ i ≤ j ∧ j < m ∧ fX12_nextOrder_b46 fuel 0 (nI n) (nI i) (nI m + (-1)) (mkM F A B) = fX12_nextOrder_b67 0 (nI n) (nI i) (nI j) (mkM F A B) := by
  intro m
  induction m with
  | zero => intro fuel h1; omega
  | succ m ih =>
    intro fuel h1 h2 h3
    obtain ⟨fuel, rfl⟩ : ∃ q, fuel = q + 1 := ⟨fuel - 1, by omega⟩
    have e1 := hO.2 m (by omega)
    have e2 := hO.2 i hi
    have l1 := hO.1.2 m (by omega)
    have l2 := hO.1.2 i hi
    have s1 := hS _ _ l2 l1
    have s2 := hS _ _ l1 l2
    have hm6 : m < 6 := by omega
    have hi6 : i < 6 := by omega
    rw [pk_m1, fX12_nextOrder_b46, fdn]
    simp -implicitDefEqProofs (disch := first | assumption | omega | decide | exact And.intro (by omega) (by omega)) only [mck, mg_0, mp_0, mr_1, mg_2, mp_2, mr_3, mg_4, mp_4, mr_5, mr_6, mr_7, mr_8, mr_9, mg_10, mp_10, mg_11, mp_11, mg_12, mp_12, mg_13, mp_13, mg_14, mp_14, mg_15, mp_15, mg_16, mp_16, mg_17, mp_17, mg_18, mp_18, mg_19, mp_19, mg_20, mp_20, mr_21, mr_22, mr_23, mr_24, mr_25, mr_26, mr_27, mr_28, mr_29, mr_30, mr_31, mr_32, mg_33, mp_33, mr_34, mr_35, mr_36, mr_37, mr_38, mg_39, mp_39, mr_40, mr_41, mr_42, mg_43, mp_43, mr_44, mr_45, mg_46, mp_46, mr_47, mr_48, mg_49, mp_49, mg_50, mp_50, mg_51, mp_51, mr_52, mr_53, mr_54, mg_55, mp_55, mr_56, mr_57, mg_58, mp_58, mg_59, mp_59, mg_60, mp_60, mr_61, mg_62, mp_62, mr_63, mr_64, mr_65, mr_66, mr_67, mr_68, ma_1, ms_1, ma_2, ms_2, ma_3, ms_3, ma_4, ms_4, ma_5, ms_5, ma_6, ms_6, ma_7, ms_7, ma_8, ms_8, ma_9, ms_9, ma_10, ms_10, ma_11, ms_11, ma_12, ms_12, ma_13, ms_13, ma_14, ms_14, ma_15, ms_15, ma_16, ms_16, ma_17, ms_17, ma_18, ms_18, ma_19, ms_19, ma_20, ms_20, ma_21, ms_21, ma_22, ms_22, ma_23, ms_23, ma_24, ms_24, ma_25, ms_25, ma_26, ms_26, ma_27, ms_27, ma_28, ms_28, ma_29, ms_29, ma_30, ms_30, ma_31, ms_31, ma_32, ms_32, ma_33, ms_33, ma_34, ms_34, ma_35, ms_35, ma_36, ms_36, ma_37, ms_37, ma_38, ms_38, ma_39, ms_39, ma_40, ms_40, ma_41, ms_41, ma_42, ms_42, ma_43, ms_43, if_true, if_false, Option.bind_some, cb_e, lt_e, nI_1, hs_nar2, nh4, upd_at, vau_at, ma_30_18, ms_30_18, ma_31_18, ms_31_18, ma_28_0, ms_28_0, ma_28_1, ms_28_1, ma_28_2, ms_28_2, ma_28_3, ms_28_3, ma_28_4, ms_28_4, ma_42_0, ms_42_0, ma_42_1, ms_42_1, ma_42_2, ms_42_2, ma_36_0, ms_36_0, e1, e2]
    by_cases c : p.getD i 0 ≤ p.getD m 0
    · rw [if_pos (by exact decide_eq_true c), if_pos (nI_le (s1.1.2 c) (by omega))]
      exact ⟨m, rfl, by omega, by omega, rfl⟩
    · rw [if_neg (by simpa using c), if_neg (nI_ge (by have := s1.1; omega) (by omega))]
      have : ¬ i = m := fun q => by rw [q] at c; omega
      obtain ⟨j, g1, g2, g3, g4⟩ := ih fuel (by omega) (by omega) (by omega)
      exact ⟨j, g1, g2, by omega, g4⟩
theorem getD_rng {n k : Nat} (h : k < n) (f : Nat → Nat) : ((List.range n).map f).getD k 0 = f k := by
  rw [List.getD_eq_getElem?_getD, List.getElem?_map, List.getElem?_range h]
  rfl
theorem m_nextOrder {F : Nat → Int32} {A : Nat → Nat → Int32} {B : Nat → Nat → Int64} {n : Nat} (h0 : 0 < n) (h6 : n ≤ 6) {S : Nat → Nat} (hS : Mono n S) {p : List Nat} (hO : OrdS A n S p) (h60 : F 60 = nI n) : (nxt p = none → fX12_nextOrder 0 (mkM F A B) = some (0, mkM F A B)) ∧ ∀ p', nxt p = some p' → ∃ A', fX12_nextOrder 0 (mkM F A B) = some (1, mkM F A' B) ∧ (p'.length = n → (∀ d ∈ p', d < n) → OrdS A' n S p') ∧ ∀ c, ¬ c = 37 → A' c = A c := by
  have es : nI n - 2 = nI (n - 1) + (-1) := by
    have e2 : (2 : Int32) = iI 2 := rfl
    rw [e2, m1_iI, iI_nI, iI_nI, iI_sub, iI_add]
    congr 1
    omega
  have e0 : fX12_nextOrder 0 (mkM F A B) = fX12_nextOrder_b9 FU 0 (nI n) (nI (n - 1) + (-1)) (mkM F A B) := by
    unfold fX12_nextOrder
    simp -implicitDefEqProofs (disch := first | assumption | omega | decide | exact And.intro (by omega) (by omega)) only [mck, mg_0, mp_0, mr_1, mg_2, mp_2, mr_3, mg_4, mp_4, mr_5, mr_6, mr_7, mr_8, mr_9, mg_10, mp_10, mg_11, mp_11, mg_12, mp_12, mg_13, mp_13, mg_14, mp_14, mg_15, mp_15, mg_16, mp_16, mg_17, mp_17, mg_18, mp_18, mg_19, mp_19, mg_20, mp_20, mr_21, mr_22, mr_23, mr_24, mr_25, mr_26, mr_27, mr_28, mr_29, mr_30, mr_31, mr_32, mg_33, mp_33, mr_34, mr_35, mr_36, mr_37, mr_38, mg_39, mp_39, mr_40, mr_41, mr_42, mg_43, mp_43, mr_44, mr_45, mg_46, mp_46, mr_47, mr_48, mg_49, mp_49, mg_50, mp_50, mg_51, mp_51, mr_52, mr_53, mr_54, mg_55, mp_55, mr_56, mr_57, mg_58, mp_58, mg_59, mp_59, mg_60, mp_60, mr_61, mg_62, mp_62, mr_63, mr_64, mr_65, mr_66, mr_67, mr_68, ma_1, ms_1, ma_2, ms_2, ma_3, ms_3, ma_4, ms_4, ma_5, ms_5, ma_6, ms_6, ma_7, ms_7, ma_8, ms_8, ma_9, ms_9, ma_10, ms_10, ma_11, ms_11, ma_12, ms_12, ma_13, ms_13, ma_14, ms_14, ma_15, ms_15, ma_16, ms_16, ma_17, ms_17, ma_18, ms_18, ma_19, ms_19, ma_20, ms_20, ma_21, ms_21, ma_22, ms_22, ma_23, ms_23, ma_24, ms_24, ma_25, ms_25, ma_26, ms_26, ma_27, ms_27, ma_28, ms_28, ma_29, ms_29, ma_30, ms_30, ma_31, ms_31, ma_32, ms_32, ma_33, ms_33, ma_34, ms_34, ma_35, ms_35, ma_36, ms_36, ma_37, ms_37, ma_38, ms_38, ma_39, ms_39, ma_40, ms_40, ma_41, ms_41, ma_42, ms_42, ma_43, ms_43, if_true, if_false, Option.bind_some, cb_e, lt_e, nI_1, hs_nar2, nh4, upd_at, vau_at, ma_30_18, ms_30_18, ma_31_18, ms_31_18, ma_28_0, ms_28_0, ma_28_1, ms_28_1, ma_28_2, ms_28_2, ma_28_3, ms_28_3, ma_28_4, ms_28_4, ma_42_0, ms_42_0, ma_42_1, ms_42_1, ma_42_2, ms_42_2, ma_36_0, ms_36_0, h60, es]
  obtain ⟨q1, q2⟩ := m_next9 (F := F) (B := B) h6 hS hO (n - 1) FU (by omega) (by unfold FU; omega)
  rw [e0]
  have hpl := hO.1.1
  unfold nxt
  rw [hpl]
  cases hq : fdn (fun i => decide (p.getD i 0 ≤ p.getD (i + 1) 0)) (n - 1) with
  | none => exact ⟨fun _ => q1 hq, fun p' hp => by cases hp⟩
  | some i =>
    obtain ⟨i1, i2⟩ := fdn_lt _ _ hq
    obtain ⟨j, g1, g2, g3, g4⟩ := m_next46 (F := F) (B := B) h6 hS hO (i := i) (by omega) n FU (by omega) (by omega) (by unfold FU; omega)
    dsimp only
    rw [g1, q2 i hq, g4]
    dsimp only
    refine ⟨fun h => (by cases h), fun p' hp => ?_⟩
    cases hp
    have hi6 : i < 6 := by omega
    have hj6 : j < 6 := by omega
    have a1 := hO.2 i (by omega)
    have a2 := hO.2 j (by omega)
    have es2 : nI n - 1 = nI (n - 1) := pk_sub (b := 1) (by omega)
    obtain ⟨A', z1, z2, z3, z4⟩ := m_rev_next (F := F) (B := B) (lo := i + 1) (hi := n - 1) (by omega) (fun k => nI (S (swp p i j k))) n (i + 1) (n - 1) FU (by omega) (by omega) (by omega) (by omega) (by unfold FU; omega) (va_up A 37 (upd (upd (A 37) i (nI (S (p.getD j 0)))) j (nI (S (p.getD i 0))))) (fun k k1 k2 => by
      rw [if_neg (by omega), vau_at]
      unfold swp
      by_cases c1 : k = j
      · rw [c1, upd_at, if_pos rfl]
      · rw [upd_ne c1, if_neg c1, upd_ne (by omega), if_neg (by omega)]
        exact hO.2 k (by omega))
    refine ⟨A', ?_, fun w1 w2 => ⟨⟨w1, fun k hk => ?_⟩, fun k hk => ?_⟩, fun c hc => by rw [z4 c hc, vau_ne hc]⟩
    · unfold fX12_nextOrder_b67
      simp -implicitDefEqProofs (disch := first | assumption | omega | decide | exact And.intro (by omega) (by omega)) only [mck, mg_0, mp_0, mr_1, mg_2, mp_2, mr_3, mg_4, mp_4, mr_5, mr_6, mr_7, mr_8, mr_9, mg_10, mp_10, mg_11, mp_11, mg_12, mp_12, mg_13, mp_13, mg_14, mp_14, mg_15, mp_15, mg_16, mp_16, mg_17, mp_17, mg_18, mp_18, mg_19, mp_19, mg_20, mp_20, mr_21, mr_22, mr_23, mr_24, mr_25, mr_26, mr_27, mr_28, mr_29, mr_30, mr_31, mr_32, mg_33, mp_33, mr_34, mr_35, mr_36, mr_37, mr_38, mg_39, mp_39, mr_40, mr_41, mr_42, mg_43, mp_43, mr_44, mr_45, mg_46, mp_46, mr_47, mr_48, mg_49, mp_49, mg_50, mp_50, mg_51, mp_51, mr_52, mr_53, mr_54, mg_55, mp_55, mr_56, mr_57, mg_58, mp_58, mg_59, mp_59, mg_60, mp_60, mr_61, mg_62, mp_62, mr_63, mr_64, mr_65, mr_66, mr_67, mr_68, ma_1, ms_1, ma_2, ms_2, ma_3, ms_3, ma_4, ms_4, ma_5, ms_5, ma_6, ms_6, ma_7, ms_7, ma_8, ms_8, ma_9, ms_9, ma_10, ms_10, ma_11, ms_11, ma_12, ms_12, ma_13, ms_13, ma_14, ms_14, ma_15, ms_15, ma_16, ms_16, ma_17, ms_17, ma_18, ms_18, ma_19, ms_19, ma_20, ms_20, ma_21, ms_21, ma_22, ms_22, ma_23, ms_23, ma_24, ms_24, ma_25, ms_25, ma_26, ms_26, ma_27, ms_27, ma_28, ms_28, ma_29, ms_29, ma_30, ms_30, ma_31, ms_31, ma_32, ms_32, ma_33, ms_33, ma_34, ms_34, ma_35, ms_35, ma_36, ms_36, ma_37, ms_37, ma_38, ms_38, ma_39, ms_39, ma_40, ms_40, ma_41, ms_41, ma_42, ms_42, ma_43, ms_43, if_true, if_false, Option.bind_some, cb_e, lt_e, nI_1, hs_nar2, nh4, upd_at, vau_at, ma_30_18, ms_30_18, ma_31_18, ms_31_18, ma_28_0, ms_28_0, ma_28_1, ms_28_1, ma_28_2, ms_28_2, ma_28_3, ms_28_3, ma_28_4, ms_28_4, ma_42_0, ms_42_0, ma_42_1, ms_42_1, ma_42_2, ms_42_2, ma_36_0, ms_36_0, a1, a2, vau_vau, es2]
      exact z1
    · exact getD_lt w2 (by omega)
    · rw [getD_rng hk]
      by_cases c : i < k
      · rw [if_pos c, z2 k (by omega) (by omega)]
        rw [show i + 1 + (n - 1) - k = i + n - k by omega]
      · rw [if_neg c, z3 k (by omega), vau_at]
        unfold swp
        by_cases c1 : k = j
        · rw [c1, upd_at, if_pos rfl]
        · rw [upd_ne c1, if_neg c1]
          by_cases c2 : k = i
          · rw [c2, upd_at, if_pos rfl]
          · rw [upd_ne c2, if_neg c2]
            exact hO.2 k hk
