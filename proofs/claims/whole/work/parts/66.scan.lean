/-! ===== the class scans ===== -/
theorem x_isL {c : Nat} (hc : c < 256) (σ : Sto) : fX9_isLetter (nI c) σ = some (b2 (isL c), σ) ∧ fX12_isLetter (nI c) σ = some (b2 (isL c), σ) := by
  unfold fX9_isLetter fX12_isLetter isL
  have i1 : nI c < (97 : Int32) ↔ c < 97 := nI_ltI (b := 97) (by omega) (by decide)
  have i2 : (122 : Int32) < nI c ↔ 122 < c := nI_ltI (a := 122) (by decide) (by omega)
  by_cases c1 : c < 97
  · rw [if_pos (i1.2 c1), decide_eq_false (by omega)]; exact ⟨rfl, rfl⟩
  rw [if_neg (fun q => c1 (i1.1 q))]
  by_cases c2 : 122 < c
  · rw [if_pos (i2.2 c2), decide_eq_false (by omega)]; exact ⟨rfl, rfl⟩
  rw [if_neg (fun q => c2 (i2.1 q)), decide_eq_true (by omega)]; exact ⟨rfl, rfl⟩
theorem x_isD {c : Nat} (hc : c < 256) (σ : Sto) : fX9_isDigit (nI c) σ = some (b2 (isD c), σ) ∧ fX12_isDigit (nI c) σ = some (b2 (isD c), σ) := by
  unfold fX9_isDigit fX12_isDigit isD
  have i1 : nI c < (48 : Int32) ↔ c < 48 := nI_ltI (b := 48) (by omega) (by decide)
  have i2 : (57 : Int32) < nI c ↔ 57 < c := nI_ltI (a := 57) (by decide) (by omega)
  by_cases c1 : c < 48
  · rw [if_pos (i1.2 c1), decide_eq_false (by omega)]; exact ⟨rfl, rfl⟩
  rw [if_neg (fun q => c1 (i1.1 q))]
  by_cases c2 : 57 < c
  · rw [if_pos (i2.2 c2), decide_eq_false (by omega)]; exact ⟨rfl, rfl⟩
  rw [if_neg (fun q => c2 (i2.1 q)), decide_eq_true (by omega)]; exact ⟨rfl, rfl⟩
theorem x_isB {c : Nat} (hc : c < 256) (σ : Sto) : fX9_isBlank (nI c) σ = some (b2 (isB c), σ) := by
  unfold fX9_isBlank isB
  have i1 : nI c = (9 : Int32) ↔ c = 9 := nI_eq (b := 9) (by omega) (by decide)
  have i2 : nI c = (10 : Int32) ↔ c = 10 := nI_eq (b := 10) (by omega) (by decide)
  have i3 : nI c = (13 : Int32) ↔ c = 13 := nI_eq (b := 13) (by omega) (by decide)
  have i4 : nI c = (32 : Int32) ↔ c = 32 := nI_eq (b := 32) (by omega) (by decide)
  by_cases c1 : c = 9
  · rw [if_pos (i1.2 c1), decide_eq_true (by omega)]; rfl
  rw [if_neg (fun q => c1 (i1.1 q))]
  by_cases c2 : c = 10
  · rw [if_pos (i2.2 c2), decide_eq_true (by omega)]; rfl
  rw [if_neg (fun q => c2 (i2.1 q))]
  by_cases c3 : c = 13
  · rw [if_pos (i3.2 c3), decide_eq_true (by omega)]; rfl
  rw [if_neg (fun q => c3 (i3.1 q))]
  by_cases c4 : c = 32
  · rw [if_pos (i4.2 c4), decide_eq_true (by omega)]; rfl
  rw [if_neg (fun q => c4 (i4.1 q)), decide_eq_false (by omega)]; rfl
theorem isLD {c : Nat} (h : isL c = true) : isD c = false := by
  have := of_decide_eq_true h
  exact decide_eq_false (by omega)
theorem b2t : ¬ b2 true = 0 := by decide
theorem b2f : b2 false = 0 := by decide
section SC
variable {F A : Nat → Nat → Int32} {B : Nat → Nat → Int64} {r : Nat → Nat} {f : Nat → Nat} {L : Nat}
theorem c_endOfRun (hL : L ≤ 2000) (hA : ∀ j, j < L → A 1 j = nI (f j)) (hf : ∀ j, f j < 256) {i e : Nat} (h : RunE f L i e) : fX9_endOfRun 1 (nI i) (nI L) (mkC F A B r) = some (nI e, mkC F A B r) := by
  have hi : i < L := by have := h.1; have := h.2.1; omega
  have key : ∀ k j fuel, j + k = e → i < j → k < fuel → fX9_endOfRun_b20 fuel 1 (nI L) (b2 (isL (f i))) (b2 (isD (f i))) (nI j) (mkC F A B r) = some (nI e, mkC F A B r) := by
    intro k
    induction k with
    | zero =>
      intro j fuel h1 h2 h3
      obtain ⟨fuel, rfl⟩ : ∃ q, fuel = q + 1 := ⟨fuel - 1, by omega⟩
      have hje : j = e := by omega
      subst hje
      rw [fX9_endOfRun_b20]
      by_cases c : j < L
      · have hp := h.2.2.2 c
        have ha := hA j c
        have hj2 : j < 2000 := by omega
        have l1 := (x_isL (hf j) (mkC F A B r)).1
        have d1 := (x_isD (hf j) (mkC F A B r)).1
        rw [if_neg (nI_ge c (by omega))]
        unfold pr at hp
        cases hl : isL (f i) with
        | true =>
          rw [hl, if_pos rfl] at hp
          rw [if_neg b2t]
          simp -implicitDefEqProofs (disch := first | assumption | omega | decide | exact And.intro (by omega) (by omega)) only [cck_0, cr0_0, cr0_1, cr0_2, cr0_3, cg0_4, cp0_4, cg0_5, cp0_5, cck_1, cg1_0, cp1_0, cr1_1, cr1_2, cr1_3, cg1_4, cp1_4, cg1_5, cp1_5, cr1_6, cr1_7, cck_2, cr2_0, cr2_1, cr2_2, cck_3, cr3_0, cr3_1, cg3_2, cp3_2, cg3_3, cp3_3, cg3_4, cp3_4, cg3_5, cp3_5, cg3_6, cp3_6, cg3_7, cp3_7, cg3_8, cp3_8, cck_4, cg4_0, cp4_0, cg4_1, cp4_1, cr4_2, cr4_3, cr4_4, cr4_5, cck_5, cg5_0, cp5_0, cr5_1, cr5_2, cr5_3, cck_6, cg6_0, cp6_0, cg6_1, cp6_1, cck_7, cg7_0, cp7_0, cg7_1, cp7_1, cr7_2, cr7_3, cr7_4, cr7_5, cr7_6, cr7_7, cr7_8, cck_8, cr8_0, cr8_1, cck_9, cr9_0, cr9_1, cr9_2, cr9_3, cg9_4, cp9_4, cck_10, cg10_0, cp10_0, cr10_1, cr10_2, cr10_3, cr10_4, cg10_5, cp10_5, cr10_6, cr10_7, cr10_8, cg10_9, cp10_9, cg10_10, cp10_10, cr10_11, cr10_12, cr10_13, cr10_14, cck_11, cr11_0, cg11_1, cp11_1, cr11_2, cr11_3, cr11_4, cr11_5, cr11_6, cr11_7, cr11_8, cr11_9, cr11_10, cr11_11, cr11_12, cr11_13, cr11_14, ca_30, cs_30, ca_31, cs_31, ca_32, cs_32, ca_33, cs_33, ca_34, cs_34, ca_35, cs_35, ca_36, cs_36, ca_37, cs_37, ca_38, cs_38, ca_39, cs_39, ca_40, cs_40, ca_41, cs_41, ca_42, cs_42, car_20, car_21, car_22, cq11_3, cq11_4, cq3_1, cq0_0, cq0_1, if_true, if_false, Option.bind_some, cb_e, lt_e, nI_1, hs_nar2, nh4, upd_at, vau_at, ca_42_0, cs_42_0, ha, l1, hp, if_pos b2f]
          unfold fX9_endOfRun_b40
          rw [isLD hl, if_pos b2f]
        | false =>
          rw [hl, if_neg (by decide)] at hp
          rw [if_pos b2f]
          unfold fX9_endOfRun_b40
          cases hd : isD (f i) with
          | false => rw [if_pos b2f]
          | true =>
            rw [hd, if_pos rfl] at hp
            rw [if_neg b2t]
            simp -implicitDefEqProofs (disch := first | assumption | omega | decide | exact And.intro (by omega) (by omega)) only [cck_0, cr0_0, cr0_1, cr0_2, cr0_3, cg0_4, cp0_4, cg0_5, cp0_5, cck_1, cg1_0, cp1_0, cr1_1, cr1_2, cr1_3, cg1_4, cp1_4, cg1_5, cp1_5, cr1_6, cr1_7, cck_2, cr2_0, cr2_1, cr2_2, cck_3, cr3_0, cr3_1, cg3_2, cp3_2, cg3_3, cp3_3, cg3_4, cp3_4, cg3_5, cp3_5, cg3_6, cp3_6, cg3_7, cp3_7, cg3_8, cp3_8, cck_4, cg4_0, cp4_0, cg4_1, cp4_1, cr4_2, cr4_3, cr4_4, cr4_5, cck_5, cg5_0, cp5_0, cr5_1, cr5_2, cr5_3, cck_6, cg6_0, cp6_0, cg6_1, cp6_1, cck_7, cg7_0, cp7_0, cg7_1, cp7_1, cr7_2, cr7_3, cr7_4, cr7_5, cr7_6, cr7_7, cr7_8, cck_8, cr8_0, cr8_1, cck_9, cr9_0, cr9_1, cr9_2, cr9_3, cg9_4, cp9_4, cck_10, cg10_0, cp10_0, cr10_1, cr10_2, cr10_3, cr10_4, cg10_5, cp10_5, cr10_6, cr10_7, cr10_8, cg10_9, cp10_9, cg10_10, cp10_10, cr10_11, cr10_12, cr10_13, cr10_14, cck_11, cr11_0, cg11_1, cp11_1, cr11_2, cr11_3, cr11_4, cr11_5, cr11_6, cr11_7, cr11_8, cr11_9, cr11_10, cr11_11, cr11_12, cr11_13, cr11_14, ca_30, cs_30, ca_31, cs_31, ca_32, cs_32, ca_33, cs_33, ca_34, cs_34, ca_35, cs_35, ca_36, cs_36, ca_37, cs_37, ca_38, cs_38, ca_39, cs_39, ca_40, cs_40, ca_41, cs_41, ca_42, cs_42, car_20, car_21, car_22, cq11_3, cq11_4, cq3_1, cq0_0, cq0_1, if_true, if_false, Option.bind_some, cb_e, lt_e, nI_1, hs_nar2, nh4, upd_at, vau_at, ca_42_0, cs_42_0, ha, d1, hp, if_pos b2f]
      · rw [if_pos (nI_le (by omega) (by have := h.2.1; omega))]
    | succ k ih =>
      intro j fuel h1 h2 h3
      obtain ⟨fuel, rfl⟩ : ∃ q, fuel = q + 1 := ⟨fuel - 1, by omega⟩
      have hjL : j < L := by have := h.2.1; omega
      have hp := h.2.2.1 j h2 (by omega)
      have ha := hA j hjL
      have hj2 : j < 2000 := by omega
      have l1 := (x_isL (hf j) (mkC F A B r)).1
      have d1 := (x_isD (hf j) (mkC F A B r)).1
      have e2 := ih (j + 1) fuel (by omega) (by omega) (by omega)
      rw [fX9_endOfRun_b20, if_neg (nI_ge hjL (by omega))]
      unfold pr at hp
      cases hl : isL (f i) with
      | true =>
        rw [hl] at e2
        rw [hl, if_pos rfl] at hp
        rw [if_neg b2t]
        simp -implicitDefEqProofs (disch := first | assumption | omega | decide | exact And.intro (by omega) (by omega)) only [cck_0, cr0_0, cr0_1, cr0_2, cr0_3, cg0_4, cp0_4, cg0_5, cp0_5, cck_1, cg1_0, cp1_0, cr1_1, cr1_2, cr1_3, cg1_4, cp1_4, cg1_5, cp1_5, cr1_6, cr1_7, cck_2, cr2_0, cr2_1, cr2_2, cck_3, cr3_0, cr3_1, cg3_2, cp3_2, cg3_3, cp3_3, cg3_4, cp3_4, cg3_5, cp3_5, cg3_6, cp3_6, cg3_7, cp3_7, cg3_8, cp3_8, cck_4, cg4_0, cp4_0, cg4_1, cp4_1, cr4_2, cr4_3, cr4_4, cr4_5, cck_5, cg5_0, cp5_0, cr5_1, cr5_2, cr5_3, cck_6, cg6_0, cp6_0, cg6_1, cp6_1, cck_7, cg7_0, cp7_0, cg7_1, cp7_1, cr7_2, cr7_3, cr7_4, cr7_5, cr7_6, cr7_7, cr7_8, cck_8, cr8_0, cr8_1, cck_9, cr9_0, cr9_1, cr9_2, cr9_3, cg9_4, cp9_4, cck_10, cg10_0, cp10_0, cr10_1, cr10_2, cr10_3, cr10_4, cg10_5, cp10_5, cr10_6, cr10_7, cr10_8, cg10_9, cp10_9, cg10_10, cp10_10, cr10_11, cr10_12, cr10_13, cr10_14, cck_11, cr11_0, cg11_1, cp11_1, cr11_2, cr11_3, cr11_4, cr11_5, cr11_6, cr11_7, cr11_8, cr11_9, cr11_10, cr11_11, cr11_12, cr11_13, cr11_14, ca_30, cs_30, ca_31, cs_31, ca_32, cs_32, ca_33, cs_33, ca_34, cs_34, ca_35, cs_35, ca_36, cs_36, ca_37, cs_37, ca_38, cs_38, ca_39, cs_39, ca_40, cs_40, ca_41, cs_41, ca_42, cs_42, car_20, car_21, car_22, cq11_3, cq11_4, cq3_1, cq0_0, cq0_1, if_true, if_false, Option.bind_some, cb_e, lt_e, nI_1, hs_nar2, nh4, upd_at, vau_at, ca_42_0, cs_42_0, ha, l1, hp, if_neg b2t]
        unfold fX9_endOfRun_b55
        rw [nI_1]
        exact e2
      | false =>
        rw [hl] at e2
        rw [hl, if_neg (by decide)] at hp
        rw [if_pos b2f]
        unfold fX9_endOfRun_b40
        cases hd : isD (f i) with
        | false =>
          rw [hd, if_neg (by decide)] at hp
          cases hp
        | true =>
          rw [hd] at e2
          rw [hd, if_pos rfl] at hp
          rw [if_neg b2t]
          simp -implicitDefEqProofs (disch := first | assumption | omega | decide | exact And.intro (by omega) (by omega)) only [cck_0, cr0_0, cr0_1, cr0_2, cr0_3, cg0_4, cp0_4, cg0_5, cp0_5, cck_1, cg1_0, cp1_0, cr1_1, cr1_2, cr1_3, cg1_4, cp1_4, cg1_5, cp1_5, cr1_6, cr1_7, cck_2, cr2_0, cr2_1, cr2_2, cck_3, cr3_0, cr3_1, cg3_2, cp3_2, cg3_3, cp3_3, cg3_4, cp3_4, cg3_5, cp3_5, cg3_6, cp3_6, cg3_7, cp3_7, cg3_8, cp3_8, cck_4, cg4_0, cp4_0, cg4_1, cp4_1, cr4_2, cr4_3, cr4_4, cr4_5, cck_5, cg5_0, cp5_0, cr5_1, cr5_2, cr5_3, cck_6, cg6_0, cp6_0, cg6_1, cp6_1, cck_7, cg7_0, cp7_0, cg7_1, cp7_1, cr7_2, cr7_3, cr7_4, cr7_5, cr7_6, cr7_7, cr7_8, cck_8, cr8_0, cr8_1, cck_9, cr9_0, cr9_1, cr9_2, cr9_3, cg9_4, cp9_4, cck_10, cg10_0, cp10_0, cr10_1, cr10_2, cr10_3, cr10_4, cg10_5, cp10_5, cr10_6, cr10_7, cr10_8, cg10_9, cp10_9, cg10_10, cp10_10, cr10_11, cr10_12, cr10_13, cr10_14, cck_11, cr11_0, cg11_1, cp11_1, cr11_2, cr11_3, cr11_4, cr11_5, cr11_6, cr11_7, cr11_8, cr11_9, cr11_10, cr11_11, cr11_12, cr11_13, cr11_14, ca_30, cs_30, ca_31, cs_31, ca_32, cs_32, ca_33, cs_33, ca_34, cs_34, ca_35, cs_35, ca_36, cs_36, ca_37, cs_37, ca_38, cs_38, ca_39, cs_39, ca_40, cs_40, ca_41, cs_41, ca_42, cs_42, car_20, car_21, car_22, cq11_3, cq11_4, cq3_1, cq0_0, cq0_1, if_true, if_false, Option.bind_some, cb_e, lt_e, nI_1, hs_nar2, nh4, upd_at, vau_at, ca_42_0, cs_42_0, ha, d1, hp, if_neg b2t]
          unfold fX9_endOfRun_b55
          rw [nI_1]
          exact e2
  have ha := hA i hi
  have hi2 : i < 2000 := by omega
  have l1 := (x_isL (hf i) (mkC F A B r)).1
  have d1 := (x_isD (hf i) (mkC F A B r)).1
  have h0 := h.1
  have h1 := h.2.1
  unfold fX9_endOfRun
  simp -implicitDefEqProofs (disch := first | assumption | omega | decide | exact And.intro (by omega) (by omega)) only [cck_0, cr0_0, cr0_1, cr0_2, cr0_3, cg0_4, cp0_4, cg0_5, cp0_5, cck_1, cg1_0, cp1_0, cr1_1, cr1_2, cr1_3, cg1_4, cp1_4, cg1_5, cp1_5, cr1_6, cr1_7, cck_2, cr2_0, cr2_1, cr2_2, cck_3, cr3_0, cr3_1, cg3_2, cp3_2, cg3_3, cp3_3, cg3_4, cp3_4, cg3_5, cp3_5, cg3_6, cp3_6, cg3_7, cp3_7, cg3_8, cp3_8, cck_4, cg4_0, cp4_0, cg4_1, cp4_1, cr4_2, cr4_3, cr4_4, cr4_5, cck_5, cg5_0, cp5_0, cr5_1, cr5_2, cr5_3, cck_6, cg6_0, cp6_0, cg6_1, cp6_1, cck_7, cg7_0, cp7_0, cg7_1, cp7_1, cr7_2, cr7_3, cr7_4, cr7_5, cr7_6, cr7_7, cr7_8, cck_8, cr8_0, cr8_1, cck_9, cr9_0, cr9_1, cr9_2, cr9_3, cg9_4, cp9_4, cck_10, cg10_0, cp10_0, cr10_1, cr10_2, cr10_3, cr10_4, cg10_5, cp10_5, cr10_6, cr10_7, cr10_8, cg10_9, cp10_9, cg10_10, cp10_10, cr10_11, cr10_12, cr10_13, cr10_14, cck_11, cr11_0, cg11_1, cp11_1, cr11_2, cr11_3, cr11_4, cr11_5, cr11_6, cr11_7, cr11_8, cr11_9, cr11_10, cr11_11, cr11_12, cr11_13, cr11_14, ca_30, cs_30, ca_31, cs_31, ca_32, cs_32, ca_33, cs_33, ca_34, cs_34, ca_35, cs_35, ca_36, cs_36, ca_37, cs_37, ca_38, cs_38, ca_39, cs_39, ca_40, cs_40, ca_41, cs_41, ca_42, cs_42, car_20, car_21, car_22, cq11_3, cq11_4, cq3_1, cq0_0, cq0_1, if_true, if_false, Option.bind_some, cb_e, lt_e, nI_1, hs_nar2, nh4, upd_at, vau_at, ca_42_0, cs_42_0, ha, l1, d1]
  exact key (e - (i + 1)) (i + 1) FU (by omega) (by omega) (by unfold FU; omega)
theorem pack_c {a c : Nat} (hc : 97 ≤ c) (σ : Sto) (hc2 : c < 256) : fX9_packLetter (jN a) (nI c) σ = some (jN (32 * a + (c - 96)), σ) := by
  unfold fX9_packLetter
  rw [nI_jJ (by omega), show (32 : Int64) = jN 32 from rfl, jN_mul, jN_add, show (97 : Int64) = jJ 97 from rfl, jJ_sub, show (1 : Int64) = jJ 1 from rfl, jJ_add]
  congr 2
  show jJ _ = jJ _
  congr 1
  omega
def tkC (A : Nat → Nat → Int32) (B : Nat → Nat → Int64) (n p : Nat) (tk : Nat × Nat × List Nat) : Prop := A 4 n = nI tk.1 ∧ A 5 n = nI p ∧ (tk.1 = 17 → B 6 n = jN tk.2.1) ∧ (tk.1 = 16 → B 6 n = jN (cN 32 tk.2.2))
theorem c_tnote (hL : L ≤ 2000) (hA : ∀ j, j < L → A 1 j = nI (f j)) (hf : ∀ j, f j < 256) (hW : B 3 = wordsC) {i e n : Nat} (h : RunE f L i e) (h4 : F 2 4 = nI n) (hn : n ≤ 400) : ∃ A' B', fX9_note 2 1 (nI i) (nI e) (mkC F A B r) = some ((), mkC (va_up F 2 (upd (F 2) 4 (nI (n + 1)))) A' B' r) ∧ tkC A' B' n i (tokAt f i e) ∧ (∀ j, ¬ j = n → A' 4 j = A 4 j ∧ A' 5 j = A 5 j ∧ B' 6 j = B 6 j) ∧ (∀ c, ¬ c = 4 → ¬ c = 5 → A' c = A c) ∧ ∀ c, ¬ c = 6 → B' c = B c := by
  have h0 := h.1
  have h1 := h.2.1
  have hiL : i < L := by omega
  have ha := hA i hiL
  have hi2 : i < 2000 := by omega
  have hn2 : n < 402 := by omega
  have es : nI e - nI i = nI (e - i) := pk_sub (by omega)
  have l1 : ∀ σ, fX9_isLetter (nI (f i)) σ = some (b2 (isL (f i)), σ) := fun σ => (x_isL (hf i) σ).1
  have d1 : ∀ σ, fX9_isDigit (nI (f i)) σ = some (b2 (isD (f i)), σ) := fun σ => (x_isD (hf i) σ).1
  generalize hA1 : va_up (va_up A 4 (upd (A 4) n 19)) 5 (upd (A 5) n (nI i)) = A1
  generalize hB1 : va_up B 6 (vp_updL (B 6) n 0) = B1
  have a4 : A1 4 = upd (A 4) n 19 := by rw [← hA1, vau_ne (by decide), vau_at]
  have a5 : A1 5 = upd (A 5) n (nI i) := by rw [← hA1, vau_at]
  have aO : ∀ c, ¬ c = 4 → ¬ c = 5 → A1 c = A c := fun c q1 q2 => by rw [← hA1, vau_ne q2, vau_ne q1]
  have b6 : B1 6 = vp_updL (B 6) n 0 := by rw [← hB1, vau_at]
  have bO : ∀ c, ¬ c = 6 → B1 c = B c := fun c q1 => by rw [← hB1, vau_ne q1]
  -- the end: a kind k and a value v written
  have fin : ∀ (k : Int32) (v : Int64) (tk : Nat × Nat × List Nat), k = nI tk.1 → (tk.1 = 17 → v = jN tk.2.1) → (tk.1 = 16 → v = jN (cN 32 tk.2.2)) → ∀ A2 B2, A2 = va_up A1 4 (upd (A1 4) n k) → B2 = va_up B1 6 (vp_updL (B1 6) n v) → tkC A2 B2 n i tk ∧ (∀ j, ¬ j = n → A2 4 j = A 4 j ∧ A2 5 j = A 5 j ∧ B2 6 j = B 6 j) ∧ (∀ c, ¬ c = 4 → ¬ c = 5 → A2 c = A c) ∧ ∀ c, ¬ c = 6 → B2 c = B c := by
    intro k v tk e1 e2 e3 A2 B2 hA2 hB2
    subst hA2
    subst hB2
    refine ⟨⟨by rw [vau_at, upd_at, e1], by rw [vau_ne (by decide), a5, upd_at], fun q => by rw [vau_at, updL_at]; exact e2 q, fun q => by rw [vau_at, updL_at]; exact e3 q⟩, fun j hj => ⟨by rw [vau_at, upd_ne hj, a4, upd_ne hj], by rw [vau_ne (by decide), a5, upd_ne hj], by rw [vau_at, updL_ne hj, b6, updL_ne hj]⟩, fun c q1 q2 => by rw [vau_ne q1, aO c q1 q2], fun c q => by rw [vau_ne q, bO c q]⟩
  unfold fX9_note
  simp -implicitDefEqProofs (disch := first | assumption | omega | decide | exact And.intro (by omega) (by omega)) only [cck_0, cr0_0, cr0_1, cr0_2, cr0_3, cg0_4, cp0_4, cg0_5, cp0_5, cck_1, cg1_0, cp1_0, cr1_1, cr1_2, cr1_3, cg1_4, cp1_4, cg1_5, cp1_5, cr1_6, cr1_7, cck_2, cr2_0, cr2_1, cr2_2, cck_3, cr3_0, cr3_1, cg3_2, cp3_2, cg3_3, cp3_3, cg3_4, cp3_4, cg3_5, cp3_5, cg3_6, cp3_6, cg3_7, cp3_7, cg3_8, cp3_8, cck_4, cg4_0, cp4_0, cg4_1, cp4_1, cr4_2, cr4_3, cr4_4, cr4_5, cck_5, cg5_0, cp5_0, cr5_1, cr5_2, cr5_3, cck_6, cg6_0, cp6_0, cg6_1, cp6_1, cck_7, cg7_0, cp7_0, cg7_1, cp7_1, cr7_2, cr7_3, cr7_4, cr7_5, cr7_6, cr7_7, cr7_8, cck_8, cr8_0, cr8_1, cck_9, cr9_0, cr9_1, cr9_2, cr9_3, cg9_4, cp9_4, cck_10, cg10_0, cp10_0, cr10_1, cr10_2, cr10_3, cr10_4, cg10_5, cp10_5, cr10_6, cr10_7, cr10_8, cg10_9, cp10_9, cg10_10, cp10_10, cr10_11, cr10_12, cr10_13, cr10_14, cck_11, cr11_0, cg11_1, cp11_1, cr11_2, cr11_3, cr11_4, cr11_5, cr11_6, cr11_7, cr11_8, cr11_9, cr11_10, cr11_11, cr11_12, cr11_13, cr11_14, ca_30, cs_30, ca_31, cs_31, ca_32, cs_32, ca_33, cs_33, ca_34, cs_34, ca_35, cs_35, ca_36, cs_36, ca_37, cs_37, ca_38, cs_38, ca_39, cs_39, ca_40, cs_40, ca_41, cs_41, ca_42, cs_42, car_20, car_21, car_22, cq11_3, cq11_4, cq3_1, cq0_0, cq0_1, if_true, if_false, Option.bind_some, cb_e, lt_e, nI_1, hs_nar2, nh4, upd_at, vau_at, ca_42_0, cs_42_0, ha, h4, vau_ne, l1]
  have hA1' : va_up (va_up A 4 (upd (A 4) n 19)) 5 (upd (A 5) n (nI i)) = A1 := hA1
  rw [hA1', hB1]
  have hid4 : va_up A1 4 (upd (A1 4) n 19) = A1 := by
    rw [a4, upd_upd, ← a4, vau_id]
  have hid6 : va_up B1 6 (vp_updL (B1 6) n 0) = B1 := by
    have : vp_updL (vp_updL (B 6) n 0) n 0 = vp_updL (B 6) n 0 := by
      funext j
      unfold vp_updL
      split <;> rfl
    rw [b6, this, ← b6, vau_id]
  have b87 : isL (f i) = true ∨ isD (f i) = true ∨ True → ∃ A' B', fX9_note_b87 2 (nI (f i)) (mkC F A1 B1 r) = some ((), mkC (va_up F 2 (upd (F 2) 4 (nI (n + 1)))) A' B' r) ∧ A' = va_up A1 4 (upd (A1 4) n (nI (sgk (f i)))) ∧ B' = va_up B1 6 (vp_updL (B1 6) n 0) := by
    intro _
    have hs : ∀ c, c < 256 → (sx_ix (nI c) < 0 ↔ sgk c = 19 ∧ ¬ c = 19 ∨ c = 19) := by decide +kernel
    have hs2 : ∀ c, c < 256 → ¬ sx_ix (nI c) < 0 → sgk c = c := by decide +kernel
    have hs3 : ∀ c, c < 256 → sx_ix (nI c) < 0 → sgk c = 19 := by decide +kernel
    unfold fX9_note_b87
    by_cases c : sx_ix (nI (f i)) < 0
    · rw [if_pos c]
      simp -implicitDefEqProofs (disch := first | assumption | omega | decide | exact And.intro (by omega) (by omega)) only [cck_0, cr0_0, cr0_1, cr0_2, cr0_3, cg0_4, cp0_4, cg0_5, cp0_5, cck_1, cg1_0, cp1_0, cr1_1, cr1_2, cr1_3, cg1_4, cp1_4, cg1_5, cp1_5, cr1_6, cr1_7, cck_2, cr2_0, cr2_1, cr2_2, cck_3, cr3_0, cr3_1, cg3_2, cp3_2, cg3_3, cp3_3, cg3_4, cp3_4, cg3_5, cp3_5, cg3_6, cp3_6, cg3_7, cp3_7, cg3_8, cp3_8, cck_4, cg4_0, cp4_0, cg4_1, cp4_1, cr4_2, cr4_3, cr4_4, cr4_5, cck_5, cg5_0, cp5_0, cr5_1, cr5_2, cr5_3, cck_6, cg6_0, cp6_0, cg6_1, cp6_1, cck_7, cg7_0, cp7_0, cg7_1, cp7_1, cr7_2, cr7_3, cr7_4, cr7_5, cr7_6, cr7_7, cr7_8, cck_8, cr8_0, cr8_1, cck_9, cr9_0, cr9_1, cr9_2, cr9_3, cg9_4, cp9_4, cck_10, cg10_0, cp10_0, cr10_1, cr10_2, cr10_3, cr10_4, cg10_5, cp10_5, cr10_6, cr10_7, cr10_8, cg10_9, cp10_9, cg10_10, cp10_10, cr10_11, cr10_12, cr10_13, cr10_14, cck_11, cr11_0, cg11_1, cp11_1, cr11_2, cr11_3, cr11_4, cr11_5, cr11_6, cr11_7, cr11_8, cr11_9, cr11_10, cr11_11, cr11_12, cr11_13, cr11_14, ca_30, cs_30, ca_31, cs_31, ca_32, cs_32, ca_33, cs_33, ca_34, cs_34, ca_35, cs_35, ca_36, cs_36, ca_37, cs_37, ca_38, cs_38, ca_39, cs_39, ca_40, cs_40, ca_41, cs_41, ca_42, cs_42, car_20, car_21, car_22, cq11_3, cq11_4, cq3_1, cq0_0, cq0_1, if_true, if_false, Option.bind_some, cb_e, lt_e, nI_1, hs_nar2, nh4, upd_at, vau_at, ca_42_0, cs_42_0, h4]
      refine ⟨A1, B1, rfl, ?_, hid6.symm⟩
      rw [hs3 _ (hf i) c]
      exact hid4.symm
    · rw [if_neg c]
      simp -implicitDefEqProofs (disch := first | assumption | omega | decide | exact And.intro (by omega) (by omega)) only [cck_0, cr0_0, cr0_1, cr0_2, cr0_3, cg0_4, cp0_4, cg0_5, cp0_5, cck_1, cg1_0, cp1_0, cr1_1, cr1_2, cr1_3, cg1_4, cp1_4, cg1_5, cp1_5, cr1_6, cr1_7, cck_2, cr2_0, cr2_1, cr2_2, cck_3, cr3_0, cr3_1, cg3_2, cp3_2, cg3_3, cp3_3, cg3_4, cp3_4, cg3_5, cp3_5, cg3_6, cp3_6, cg3_7, cp3_7, cg3_8, cp3_8, cck_4, cg4_0, cp4_0, cg4_1, cp4_1, cr4_2, cr4_3, cr4_4, cr4_5, cck_5, cg5_0, cp5_0, cr5_1, cr5_2, cr5_3, cck_6, cg6_0, cp6_0, cg6_1, cp6_1, cck_7, cg7_0, cp7_0, cg7_1, cp7_1, cr7_2, cr7_3, cr7_4, cr7_5, cr7_6, cr7_7, cr7_8, cck_8, cr8_0, cr8_1, cck_9, cr9_0, cr9_1, cr9_2, cr9_3, cg9_4, cp9_4, cck_10, cg10_0, cp10_0, cr10_1, cr10_2, cr10_3, cr10_4, cg10_5, cp10_5, cr10_6, cr10_7, cr10_8, cg10_9, cp10_9, cg10_10, cp10_10, cr10_11, cr10_12, cr10_13, cr10_14, cck_11, cr11_0, cg11_1, cp11_1, cr11_2, cr11_3, cr11_4, cr11_5, cr11_6, cr11_7, cr11_8, cr11_9, cr11_10, cr11_11, cr11_12, cr11_13, cr11_14, ca_30, cs_30, ca_31, cs_31, ca_32, cs_32, ca_33, cs_33, ca_34, cs_34, ca_35, cs_35, ca_36, cs_36, ca_37, cs_37, ca_38, cs_38, ca_39, cs_39, ca_40, cs_40, ca_41, cs_41, ca_42, cs_42, car_20, car_21, car_22, cq11_3, cq11_4, cq3_1, cq0_0, cq0_1, if_true, if_false, Option.bind_some, cb_e, lt_e, nI_1, hs_nar2, nh4, upd_at, vau_at, ca_42_0, cs_42_0, h4]
      refine ⟨_, B1, rfl, ?_, hid6.symm⟩
      rw [hs2 _ (hf i) c]
  cases hl : isL (f i) with
  | true =>
    rw [if_neg b2t, es]
    by_cases c8 : e - i ≤ 8
    · rw [if_neg (show ¬ (8 : Int32) < nI (e - i) from nI_nlt (a := 8) c8 (by decide))]
      have hlet := h.let hl
      have hNam : Nam (ltr f i (e - i)) := ⟨by rw [ltr_len]; exact c8, ltr_let _ hlet⟩
      have hpk : ∀ k j fuel, j + k = e - i → k < fuel → fX9_noteWord_b6 fuel 2 1 (nI e) (jN (cN 32 (ltr f i j))) (nI (i + j)) (mkC F A1 B1 r) = fX9_noteWord_b29 2 (jN (cN 32 (ltr f i (e - i)))) (mkC F A1 B1 r) := by
        intro k
        induction k with
        | zero =>
          intro j fuel q1 q2
          obtain ⟨fuel, rfl⟩ : ∃ q, fuel = q + 1 := ⟨fuel - 1, by omega⟩
          have : j = e - i := by omega
          subst this
          rw [fX9_noteWord_b6, if_pos (nI_le (by omega) (by omega))]
        | succ k ih =>
          intro j fuel q1 q2
          obtain ⟨fuel, rfl⟩ : ∃ q, fuel = q + 1 := ⟨fuel - 1, by omega⟩
          have hj := of_decide_eq_true (hlet j (by omega))
          have haj : A1 1 (i + j) = nI (f (i + j)) := by rw [aO 1 (by decide) (by decide)]; exact hA _ (by omega)
          have hij : i + j < 2000 := by omega
          have pk := pack_c (a := cN 32 (ltr f i j)) (c := f (i + j)) hj.1 (mkC F A1 B1 r) (hf _)
          rw [fX9_noteWord_b6, if_neg (nI_ge (by omega) (by omega))]
          simp -implicitDefEqProofs (disch := first | assumption | omega | decide | exact And.intro (by omega) (by omega)) only [cck_0, cr0_0, cr0_1, cr0_2, cr0_3, cg0_4, cp0_4, cg0_5, cp0_5, cck_1, cg1_0, cp1_0, cr1_1, cr1_2, cr1_3, cg1_4, cp1_4, cg1_5, cp1_5, cr1_6, cr1_7, cck_2, cr2_0, cr2_1, cr2_2, cck_3, cr3_0, cr3_1, cg3_2, cp3_2, cg3_3, cp3_3, cg3_4, cp3_4, cg3_5, cp3_5, cg3_6, cp3_6, cg3_7, cp3_7, cg3_8, cp3_8, cck_4, cg4_0, cp4_0, cg4_1, cp4_1, cr4_2, cr4_3, cr4_4, cr4_5, cck_5, cg5_0, cp5_0, cr5_1, cr5_2, cr5_3, cck_6, cg6_0, cp6_0, cg6_1, cp6_1, cck_7, cg7_0, cp7_0, cg7_1, cp7_1, cr7_2, cr7_3, cr7_4, cr7_5, cr7_6, cr7_7, cr7_8, cck_8, cr8_0, cr8_1, cck_9, cr9_0, cr9_1, cr9_2, cr9_3, cg9_4, cp9_4, cck_10, cg10_0, cp10_0, cr10_1, cr10_2, cr10_3, cr10_4, cg10_5, cp10_5, cr10_6, cr10_7, cr10_8, cg10_9, cp10_9, cg10_10, cp10_10, cr10_11, cr10_12, cr10_13, cr10_14, cck_11, cr11_0, cg11_1, cp11_1, cr11_2, cr11_3, cr11_4, cr11_5, cr11_6, cr11_7, cr11_8, cr11_9, cr11_10, cr11_11, cr11_12, cr11_13, cr11_14, ca_30, cs_30, ca_31, cs_31, ca_32, cs_32, ca_33, cs_33, ca_34, cs_34, ca_35, cs_35, ca_36, cs_36, ca_37, cs_37, ca_38, cs_38, ca_39, cs_39, ca_40, cs_40, ca_41, cs_41, ca_42, cs_42, car_20, car_21, car_22, cq11_3, cq11_4, cq3_1, cq0_0, cq0_1, if_true, if_false, Option.bind_some, cb_e, lt_e, nI_1, hs_nar2, nh4, upd_at, vau_at, ca_42_0, cs_42_0, haj, pk]
          exact ih (j + 1) fuel (by omega) (by omega)
      have hwd : ∀ k w fuel, w + k = 16 → k < fuel → ∀ (A2 : Nat → Nat → Int32) (B2 : Nat → Nat → Int64), B2 3 = wordsC → A2 4 n = nI ((fdn (fun w => decide (wl w = ltr f i (e - i))) w).getD 16) → fX9_noteWord_b54 fuel 2 (jN (cN 32 (ltr f i (e - i)))) (nI w) (mkC F A2 B2 r) = some ((), mkC F (va_up A2 4 (upd (A2 4) n (nI (wk (ltr f i (e - i)))))) B2 r) := by
        intro k
        induction k with
        | zero =>
          intro w fuel q1 q2 A2 B2 hB hA2
          obtain ⟨fuel, rfl⟩ : ∃ q, fuel = q + 1 := ⟨fuel - 1, by omega⟩
          have : w = 16 := by omega
          subst this
          rw [fX9_noteWord_b54, if_pos (by decide)]
          have : upd (A2 4) n (nI (wk (ltr f i (e - i)))) = A2 4 := by
            funext x
            unfold upd
            split
            · rename_i hx; rw [hx, hA2]; rfl
            · rfl
          rw [this, vau_id]
        | succ k ih =>
          intro w fuel q1 q2 A2 B2 hB hA2
          obtain ⟨fuel, rfl⟩ : ∃ q, fuel = q + 1 := ⟨fuel - 1, by omega⟩
          have hw16 : w < 16 := by omega
          have hwc := word_c hNam hw16
          have hbw : B2 3 w = wordsC w := by rw [hB]
          rw [fX9_noteWord_b54, if_neg (show ¬ (16 : Int32) ≤ nI w from nI_ge (b := 16) (by omega) (by decide))]
          unfold fX9_noteWord_b85
          simp -implicitDefEqProofs (disch := first | assumption | omega | decide | exact And.intro (by omega) (by omega)) only [cck_0, cr0_0, cr0_1, cr0_2, cr0_3, cg0_4, cp0_4, cg0_5, cp0_5, cck_1, cg1_0, cp1_0, cr1_1, cr1_2, cr1_3, cg1_4, cp1_4, cg1_5, cp1_5, cr1_6, cr1_7, cck_2, cr2_0, cr2_1, cr2_2, cck_3, cr3_0, cr3_1, cg3_2, cp3_2, cg3_3, cp3_3, cg3_4, cp3_4, cg3_5, cp3_5, cg3_6, cp3_6, cg3_7, cp3_7, cg3_8, cp3_8, cck_4, cg4_0, cp4_0, cg4_1, cp4_1, cr4_2, cr4_3, cr4_4, cr4_5, cck_5, cg5_0, cp5_0, cr5_1, cr5_2, cr5_3, cck_6, cg6_0, cp6_0, cg6_1, cp6_1, cck_7, cg7_0, cp7_0, cg7_1, cp7_1, cr7_2, cr7_3, cr7_4, cr7_5, cr7_6, cr7_7, cr7_8, cck_8, cr8_0, cr8_1, cck_9, cr9_0, cr9_1, cr9_2, cr9_3, cg9_4, cp9_4, cck_10, cg10_0, cp10_0, cr10_1, cr10_2, cr10_3, cr10_4, cg10_5, cp10_5, cr10_6, cr10_7, cr10_8, cg10_9, cp10_9, cg10_10, cp10_10, cr10_11, cr10_12, cr10_13, cr10_14, cck_11, cr11_0, cg11_1, cp11_1, cr11_2, cr11_3, cr11_4, cr11_5, cr11_6, cr11_7, cr11_8, cr11_9, cr11_10, cr11_11, cr11_12, cr11_13, cr11_14, ca_30, cs_30, ca_31, cs_31, ca_32, cs_32, ca_33, cs_33, ca_34, cs_34, ca_35, cs_35, ca_36, cs_36, ca_37, cs_37, ca_38, cs_38, ca_39, cs_39, ca_40, cs_40, ca_41, cs_41, ca_42, cs_42, car_20, car_21, car_22, cq11_3, cq11_4, cq3_1, cq0_0, cq0_1, if_true, if_false, Option.bind_some, cb_e, lt_e, nI_1, hs_nar2, nh4, upd_at, vau_at, ca_42_0, cs_42_0, hbw]
          by_cases c : wl w = ltr f i (e - i)
          · rw [if_pos (by rw [lg_cmp_eq]; exact hwc.2 c)]
            simp -implicitDefEqProofs (disch := first | assumption | omega | decide | exact And.intro (by omega) (by omega)) only [cck_0, cr0_0, cr0_1, cr0_2, cr0_3, cg0_4, cp0_4, cg0_5, cp0_5, cck_1, cg1_0, cp1_0, cr1_1, cr1_2, cr1_3, cg1_4, cp1_4, cg1_5, cp1_5, cr1_6, cr1_7, cck_2, cr2_0, cr2_1, cr2_2, cck_3, cr3_0, cr3_1, cg3_2, cp3_2, cg3_3, cp3_3, cg3_4, cp3_4, cg3_5, cp3_5, cg3_6, cp3_6, cg3_7, cp3_7, cg3_8, cp3_8, cck_4, cg4_0, cp4_0, cg4_1, cp4_1, cr4_2, cr4_3, cr4_4, cr4_5, cck_5, cg5_0, cp5_0, cr5_1, cr5_2, cr5_3, cck_6, cg6_0, cp6_0, cg6_1, cp6_1, cck_7, cg7_0, cp7_0, cg7_1, cp7_1, cr7_2, cr7_3, cr7_4, cr7_5, cr7_6, cr7_7, cr7_8, cck_8, cr8_0, cr8_1, cck_9, cr9_0, cr9_1, cr9_2, cr9_3, cg9_4, cp9_4, cck_10, cg10_0, cp10_0, cr10_1, cr10_2, cr10_3, cr10_4, cg10_5, cp10_5, cr10_6, cr10_7, cr10_8, cg10_9, cp10_9, cg10_10, cp10_10, cr10_11, cr10_12, cr10_13, cr10_14, cck_11, cr11_0, cg11_1, cp11_1, cr11_2, cr11_3, cr11_4, cr11_5, cr11_6, cr11_7, cr11_8, cr11_9, cr11_10, cr11_11, cr11_12, cr11_13, cr11_14, ca_30, cs_30, ca_31, cs_31, ca_32, cs_32, ca_33, cs_33, ca_34, cs_34, ca_35, cs_35, ca_36, cs_36, ca_37, cs_37, ca_38, cs_38, ca_39, cs_39, ca_40, cs_40, ca_41, cs_41, ca_42, cs_42, car_20, car_21, car_22, cq11_3, cq11_4, cq3_1, cq0_0, cq0_1, if_true, if_false, Option.bind_some, cb_e, lt_e, nI_1, hs_nar2, nh4, upd_at, vau_at, ca_42_0, cs_42_0, h4]
            have := ih (w + 1) fuel (by omega) (by omega) (va_up A2 4 (upd (A2 4) n (nI w))) B2 hB (by rw [vau_at, upd_at, fdn, if_pos (decide_eq_true c)]; rfl)
            rw [vau_vau, vau_at, upd_upd] at this
            exact this
          · rw [if_neg (by rw [lg_cmp_eq]; exact fun q => c (hwc.1 q))]
            exact ih (w + 1) fuel (by omega) (by omega) A2 B2 hB (by rw [fdn, if_neg (by simpa using c)]; exact hA2)
      have e1 := hpk (e - i) 0 FU (by omega) (by unfold FU; omega)
      have e1' : fX9_noteWord_b6 FU 2 1 (nI e) 0 (nI i) (mkC F A1 B1 r) = fX9_noteWord_b29 2 (jN (cN 32 (ltr f i (e - i)))) (mkC F A1 B1 r) := e1
      have e2 := hwd 16 0 FU (by omega) (by decide) (va_up A1 4 (upd (A1 4) n 16)) (va_up B1 6 (vp_updL (B1 6) n (jN (cN 32 (ltr f i (e - i)))))) (by rw [vau_ne (by decide), bO 3 (by decide)]; exact hW) (by rw [vau_at, upd_at]; rfl)
      rw [vau_vau, vau_at, upd_upd] at e2
      have e2' : fX9_noteWord_b54 FU 2 (jN (cN 32 (ltr f i (e - i)))) 0 (mkC F (va_up A1 4 (upd (A1 4) n 16)) (va_up B1 6 (vp_updL (B1 6) n (jN (cN 32 (ltr f i (e - i)))))) r) = some ((), mkC F (va_up A1 4 (upd (A1 4) n (nI (wk (ltr f i (e - i)))))) (va_up B1 6 (vp_updL (B1 6) n (jN (cN 32 (ltr f i (e - i)))))) r) := e2
      have htk : tokAt f i e = (wk (ltr f i (e - i)), 0, ltr f i (e - i)) := by unfold tokAt; rw [hl, if_pos rfl, if_pos c8]
      unfold fX9_noteWord
      simp -implicitDefEqProofs (disch := first | assumption | omega | decide | exact And.intro (by omega) (by omega)) only [cck_0, cr0_0, cr0_1, cr0_2, cr0_3, cg0_4, cp0_4, cg0_5, cp0_5, cck_1, cg1_0, cp1_0, cr1_1, cr1_2, cr1_3, cg1_4, cp1_4, cg1_5, cp1_5, cr1_6, cr1_7, cck_2, cr2_0, cr2_1, cr2_2, cck_3, cr3_0, cr3_1, cg3_2, cp3_2, cg3_3, cp3_3, cg3_4, cp3_4, cg3_5, cp3_5, cg3_6, cp3_6, cg3_7, cp3_7, cg3_8, cp3_8, cck_4, cg4_0, cp4_0, cg4_1, cp4_1, cr4_2, cr4_3, cr4_4, cr4_5, cck_5, cg5_0, cp5_0, cr5_1, cr5_2, cr5_3, cck_6, cg6_0, cp6_0, cg6_1, cp6_1, cck_7, cg7_0, cp7_0, cg7_1, cp7_1, cr7_2, cr7_3, cr7_4, cr7_5, cr7_6, cr7_7, cr7_8, cck_8, cr8_0, cr8_1, cck_9, cr9_0, cr9_1, cr9_2, cr9_3, cg9_4, cp9_4, cck_10, cg10_0, cp10_0, cr10_1, cr10_2, cr10_3, cr10_4, cg10_5, cp10_5, cr10_6, cr10_7, cr10_8, cg10_9, cp10_9, cg10_10, cp10_10, cr10_11, cr10_12, cr10_13, cr10_14, cck_11, cr11_0, cg11_1, cp11_1, cr11_2, cr11_3, cr11_4, cr11_5, cr11_6, cr11_7, cr11_8, cr11_9, cr11_10, cr11_11, cr11_12, cr11_13, cr11_14, ca_30, cs_30, ca_31, cs_31, ca_32, cs_32, ca_33, cs_33, ca_34, cs_34, ca_35, cs_35, ca_36, cs_36, ca_37, cs_37, ca_38, cs_38, ca_39, cs_39, ca_40, cs_40, ca_41, cs_41, ca_42, cs_42, car_20, car_21, car_22, cq11_3, cq11_4, cq3_1, cq0_0, cq0_1, if_true, if_false, Option.bind_some, cb_e, lt_e, nI_1, hs_nar2, nh4, upd_at, vau_at, ca_42_0, cs_42_0, e1']
      unfold fX9_noteWord_b29
      simp -implicitDefEqProofs (disch := first | assumption | omega | decide | exact And.intro (by omega) (by omega)) only [cck_0, cr0_0, cr0_1, cr0_2, cr0_3, cg0_4, cp0_4, cg0_5, cp0_5, cck_1, cg1_0, cp1_0, cr1_1, cr1_2, cr1_3, cg1_4, cp1_4, cg1_5, cp1_5, cr1_6, cr1_7, cck_2, cr2_0, cr2_1, cr2_2, cck_3, cr3_0, cr3_1, cg3_2, cp3_2, cg3_3, cp3_3, cg3_4, cp3_4, cg3_5, cp3_5, cg3_6, cp3_6, cg3_7, cp3_7, cg3_8, cp3_8, cck_4, cg4_0, cp4_0, cg4_1, cp4_1, cr4_2, cr4_3, cr4_4, cr4_5, cck_5, cg5_0, cp5_0, cr5_1, cr5_2, cr5_3, cck_6, cg6_0, cp6_0, cg6_1, cp6_1, cck_7, cg7_0, cp7_0, cg7_1, cp7_1, cr7_2, cr7_3, cr7_4, cr7_5, cr7_6, cr7_7, cr7_8, cck_8, cr8_0, cr8_1, cck_9, cr9_0, cr9_1, cr9_2, cr9_3, cg9_4, cp9_4, cck_10, cg10_0, cp10_0, cr10_1, cr10_2, cr10_3, cr10_4, cg10_5, cp10_5, cr10_6, cr10_7, cr10_8, cg10_9, cp10_9, cg10_10, cp10_10, cr10_11, cr10_12, cr10_13, cr10_14, cck_11, cr11_0, cg11_1, cp11_1, cr11_2, cr11_3, cr11_4, cr11_5, cr11_6, cr11_7, cr11_8, cr11_9, cr11_10, cr11_11, cr11_12, cr11_13, cr11_14, ca_30, cs_30, ca_31, cs_31, ca_32, cs_32, ca_33, cs_33, ca_34, cs_34, ca_35, cs_35, ca_36, cs_36, ca_37, cs_37, ca_38, cs_38, ca_39, cs_39, ca_40, cs_40, ca_41, cs_41, ca_42, cs_42, car_20, car_21, car_22, cq11_3, cq11_4, cq3_1, cq0_0, cq0_1, if_true, if_false, Option.bind_some, cb_e, lt_e, nI_1, hs_nar2, nh4, upd_at, vau_at, ca_42_0, cs_42_0, h4, e2']
      refine ⟨_, _, rfl, ?_⟩
      rw [htk]
      exact fin _ _ _ rfl (fun q => by
        have := wk_le (ltr f i (e - i))
        have q' : wk (ltr f i (e - i)) = 17 := q
        omega) (fun _ => rfl) _ _ rfl rfl
    · rw [if_pos (show (8 : Int32) < nI (e - i) from nI_lt (a := 8) (by omega) (by omega))]
      have hd := isLD hl
      have htk : tokAt f i e = (19, 0, []) := by unfold tokAt; rw [hl, if_pos rfl, if_neg c8]
      obtain ⟨A', B', g1, g2, g3⟩ := b87 (Or.inl hl)
      unfold fX9_note_b62
      simp -implicitDefEqProofs (disch := first | assumption | omega | decide | exact And.intro (by omega) (by omega)) only [cck_0, cr0_0, cr0_1, cr0_2, cr0_3, cg0_4, cp0_4, cg0_5, cp0_5, cck_1, cg1_0, cp1_0, cr1_1, cr1_2, cr1_3, cg1_4, cp1_4, cg1_5, cp1_5, cr1_6, cr1_7, cck_2, cr2_0, cr2_1, cr2_2, cck_3, cr3_0, cr3_1, cg3_2, cp3_2, cg3_3, cp3_3, cg3_4, cp3_4, cg3_5, cp3_5, cg3_6, cp3_6, cg3_7, cp3_7, cg3_8, cp3_8, cck_4, cg4_0, cp4_0, cg4_1, cp4_1, cr4_2, cr4_3, cr4_4, cr4_5, cck_5, cg5_0, cp5_0, cr5_1, cr5_2, cr5_3, cck_6, cg6_0, cp6_0, cg6_1, cp6_1, cck_7, cg7_0, cp7_0, cg7_1, cp7_1, cr7_2, cr7_3, cr7_4, cr7_5, cr7_6, cr7_7, cr7_8, cck_8, cr8_0, cr8_1, cck_9, cr9_0, cr9_1, cr9_2, cr9_3, cg9_4, cp9_4, cck_10, cg10_0, cp10_0, cr10_1, cr10_2, cr10_3, cr10_4, cg10_5, cp10_5, cr10_6, cr10_7, cr10_8, cg10_9, cp10_9, cg10_10, cp10_10, cr10_11, cr10_12, cr10_13, cr10_14, cck_11, cr11_0, cg11_1, cp11_1, cr11_2, cr11_3, cr11_4, cr11_5, cr11_6, cr11_7, cr11_8, cr11_9, cr11_10, cr11_11, cr11_12, cr11_13, cr11_14, ca_30, cs_30, ca_31, cs_31, ca_32, cs_32, ca_33, cs_33, ca_34, cs_34, ca_35, cs_35, ca_36, cs_36, ca_37, cs_37, ca_38, cs_38, ca_39, cs_39, ca_40, cs_40, ca_41, cs_41, ca_42, cs_42, car_20, car_21, car_22, cq11_3, cq11_4, cq3_1, cq0_0, cq0_1, if_true, if_false, Option.bind_some, cb_e, lt_e, nI_1, hs_nar2, nh4, upd_at, vau_at, ca_42_0, cs_42_0, d1, hd, if_pos b2f]
      refine ⟨A', B', g1, ?_⟩
      have hs : ∀ c, c < 256 → isL c = true → sgk c = 19 := by decide +kernel
      rw [hs _ (hf i) hl] at g2
      rw [htk]
      exact fin _ _ _ rfl (fun q => (by cases q)) (fun q => (by cases q)) _ _ g2 g3
  | false =>
    rw [if_pos b2f]
    unfold fX9_note_b62
    simp -implicitDefEqProofs (disch := first | assumption | omega | decide | exact And.intro (by omega) (by omega)) only [cck_0, cr0_0, cr0_1, cr0_2, cr0_3, cg0_4, cp0_4, cg0_5, cp0_5, cck_1, cg1_0, cp1_0, cr1_1, cr1_2, cr1_3, cg1_4, cp1_4, cg1_5, cp1_5, cr1_6, cr1_7, cck_2, cr2_0, cr2_1, cr2_2, cck_3, cr3_0, cr3_1, cg3_2, cp3_2, cg3_3, cp3_3, cg3_4, cp3_4, cg3_5, cp3_5, cg3_6, cp3_6, cg3_7, cp3_7, cg3_8, cp3_8, cck_4, cg4_0, cp4_0, cg4_1, cp4_1, cr4_2, cr4_3, cr4_4, cr4_5, cck_5, cg5_0, cp5_0, cr5_1, cr5_2, cr5_3, cck_6, cg6_0, cp6_0, cg6_1, cp6_1, cck_7, cg7_0, cp7_0, cg7_1, cp7_1, cr7_2, cr7_3, cr7_4, cr7_5, cr7_6, cr7_7, cr7_8, cck_8, cr8_0, cr8_1, cck_9, cr9_0, cr9_1, cr9_2, cr9_3, cg9_4, cp9_4, cck_10, cg10_0, cp10_0, cr10_1, cr10_2, cr10_3, cr10_4, cg10_5, cp10_5, cr10_6, cr10_7, cr10_8, cg10_9, cp10_9, cg10_10, cp10_10, cr10_11, cr10_12, cr10_13, cr10_14, cck_11, cr11_0, cg11_1, cp11_1, cr11_2, cr11_3, cr11_4, cr11_5, cr11_6, cr11_7, cr11_8, cr11_9, cr11_10, cr11_11, cr11_12, cr11_13, cr11_14, ca_30, cs_30, ca_31, cs_31, ca_32, cs_32, ca_33, cs_33, ca_34, cs_34, ca_35, cs_35, ca_36, cs_36, ca_37, cs_37, ca_38, cs_38, ca_39, cs_39, ca_40, cs_40, ca_41, cs_41, ca_42, cs_42, car_20, car_21, car_22, cq11_3, cq11_4, cq3_1, cq0_0, cq0_1, if_true, if_false, Option.bind_some, cb_e, lt_e, nI_1, hs_nar2, nh4, upd_at, vau_at, ca_42_0, cs_42_0, d1]
    cases hd : isD (f i) with
    | true =>
      rw [if_neg b2t, es]
      by_cases c4 : e - i ≤ 4
      · rw [if_neg (show ¬ (4 : Int32) < nI (e - i) from nI_nlt (a := 4) c4 (by decide))]
        have hdig := h.dig hl hd
        have hv := dgv_lt (e - i) hdig
        have hv2 : 10 ^ (e - i) ≤ 10 ^ 4 := Nat.pow_le_pow_right (by decide) c4
        have hpk : ∀ k j fuel, j + k = e - i → k < fuel → fX9_noteInt_b6 fuel 2 1 (nI e) (nI (dgv f i j)) (nI (i + j)) (mkC F A1 B1 r) = fX9_noteInt_b33 2 (nI (dgv f i (e - i))) (mkC F A1 B1 r) := by
          intro k
          induction k with
          | zero =>
            intro j fuel q1 q2
            obtain ⟨fuel, rfl⟩ : ∃ q, fuel = q + 1 := ⟨fuel - 1, by omega⟩
            have : j = e - i := by omega
            subst this
            rw [fX9_noteInt_b6, if_pos (nI_le (by omega) (by omega))]
          | succ k ih =>
            intro j fuel q1 q2
            obtain ⟨fuel, rfl⟩ : ∃ q, fuel = q + 1 := ⟨fuel - 1, by omega⟩
            have hj := of_decide_eq_true (hdig j (by omega))
            have haj : A1 1 (i + j) = nI (f (i + j)) := by rw [aO 1 (by decide) (by decide)]; exact hA _ (by omega)
            have hij : i + j < 2000 := by omega
            have ev : nI (dgv f i j) * (10 : Int32) + nI (f (i + j)) - 48 = nI (dgv f i (j + 1)) := by
              have q3 : nI (dgv f i j) * (10 : Int32) = nI (dgv f i j * 10) := pk_mul _ 10
              have q4 : nI (dgv f i j * 10 + f (i + j)) - nI 48 = nI (dgv f i j * 10 + f (i + j) - 48) := pk_sub (by omega)
              rw [q3, nI_add, show (48 : Int32) = nI 48 from rfl, q4, dgv]
              congr 1
              omega
            rw [fX9_noteInt_b6, if_neg (nI_ge (by omega) (by omega))]
            simp -implicitDefEqProofs (disch := first | assumption | omega | decide | exact And.intro (by omega) (by omega)) only [cck_0, cr0_0, cr0_1, cr0_2, cr0_3, cg0_4, cp0_4, cg0_5, cp0_5, cck_1, cg1_0, cp1_0, cr1_1, cr1_2, cr1_3, cg1_4, cp1_4, cg1_5, cp1_5, cr1_6, cr1_7, cck_2, cr2_0, cr2_1, cr2_2, cck_3, cr3_0, cr3_1, cg3_2, cp3_2, cg3_3, cp3_3, cg3_4, cp3_4, cg3_5, cp3_5, cg3_6, cp3_6, cg3_7, cp3_7, cg3_8, cp3_8, cck_4, cg4_0, cp4_0, cg4_1, cp4_1, cr4_2, cr4_3, cr4_4, cr4_5, cck_5, cg5_0, cp5_0, cr5_1, cr5_2, cr5_3, cck_6, cg6_0, cp6_0, cg6_1, cp6_1, cck_7, cg7_0, cp7_0, cg7_1, cp7_1, cr7_2, cr7_3, cr7_4, cr7_5, cr7_6, cr7_7, cr7_8, cck_8, cr8_0, cr8_1, cck_9, cr9_0, cr9_1, cr9_2, cr9_3, cg9_4, cp9_4, cck_10, cg10_0, cp10_0, cr10_1, cr10_2, cr10_3, cr10_4, cg10_5, cp10_5, cr10_6, cr10_7, cr10_8, cg10_9, cp10_9, cg10_10, cp10_10, cr10_11, cr10_12, cr10_13, cr10_14, cck_11, cr11_0, cg11_1, cp11_1, cr11_2, cr11_3, cr11_4, cr11_5, cr11_6, cr11_7, cr11_8, cr11_9, cr11_10, cr11_11, cr11_12, cr11_13, cr11_14, ca_30, cs_30, ca_31, cs_31, ca_32, cs_32, ca_33, cs_33, ca_34, cs_34, ca_35, cs_35, ca_36, cs_36, ca_37, cs_37, ca_38, cs_38, ca_39, cs_39, ca_40, cs_40, ca_41, cs_41, ca_42, cs_42, car_20, car_21, car_22, cq11_3, cq11_4, cq3_1, cq0_0, cq0_1, if_true, if_false, Option.bind_some, cb_e, lt_e, nI_1, hs_nar2, nh4, upd_at, vau_at, ca_42_0, cs_42_0, haj, ev]
            exact ih (j + 1) fuel (by omega) (by omega)
        have e1 := hpk (e - i) 0 FU (by omega) (by unfold FU; omega)
        have e1' : fX9_noteInt_b6 FU 2 1 (nI e) 0 (nI i) (mkC F A1 B1 r) = fX9_noteInt_b33 2 (nI (dgv f i (e - i))) (mkC F A1 B1 r) := e1
        have htk : tokAt f i e = (17, dgv f i (e - i), []) := by unfold tokAt; rw [hl, if_neg (by decide), hd, if_pos rfl, if_pos c4]
        unfold fX9_noteInt
        simp -implicitDefEqProofs (disch := first | assumption | omega | decide | exact And.intro (by omega) (by omega)) only [cck_0, cr0_0, cr0_1, cr0_2, cr0_3, cg0_4, cp0_4, cg0_5, cp0_5, cck_1, cg1_0, cp1_0, cr1_1, cr1_2, cr1_3, cg1_4, cp1_4, cg1_5, cp1_5, cr1_6, cr1_7, cck_2, cr2_0, cr2_1, cr2_2, cck_3, cr3_0, cr3_1, cg3_2, cp3_2, cg3_3, cp3_3, cg3_4, cp3_4, cg3_5, cp3_5, cg3_6, cp3_6, cg3_7, cp3_7, cg3_8, cp3_8, cck_4, cg4_0, cp4_0, cg4_1, cp4_1, cr4_2, cr4_3, cr4_4, cr4_5, cck_5, cg5_0, cp5_0, cr5_1, cr5_2, cr5_3, cck_6, cg6_0, cp6_0, cg6_1, cp6_1, cck_7, cg7_0, cp7_0, cg7_1, cp7_1, cr7_2, cr7_3, cr7_4, cr7_5, cr7_6, cr7_7, cr7_8, cck_8, cr8_0, cr8_1, cck_9, cr9_0, cr9_1, cr9_2, cr9_3, cg9_4, cp9_4, cck_10, cg10_0, cp10_0, cr10_1, cr10_2, cr10_3, cr10_4, cg10_5, cp10_5, cr10_6, cr10_7, cr10_8, cg10_9, cp10_9, cg10_10, cp10_10, cr10_11, cr10_12, cr10_13, cr10_14, cck_11, cr11_0, cg11_1, cp11_1, cr11_2, cr11_3, cr11_4, cr11_5, cr11_6, cr11_7, cr11_8, cr11_9, cr11_10, cr11_11, cr11_12, cr11_13, cr11_14, ca_30, cs_30, ca_31, cs_31, ca_32, cs_32, ca_33, cs_33, ca_34, cs_34, ca_35, cs_35, ca_36, cs_36, ca_37, cs_37, ca_38, cs_38, ca_39, cs_39, ca_40, cs_40, ca_41, cs_41, ca_42, cs_42, car_20, car_21, car_22, cq11_3, cq11_4, cq3_1, cq0_0, cq0_1, if_true, if_false, Option.bind_some, cb_e, lt_e, nI_1, hs_nar2, nh4, upd_at, vau_at, ca_42_0, cs_42_0, e1']
        unfold fX9_noteInt_b33
        simp -implicitDefEqProofs (disch := first | assumption | omega | decide | exact And.intro (by omega) (by omega)) only [cck_0, cr0_0, cr0_1, cr0_2, cr0_3, cg0_4, cp0_4, cg0_5, cp0_5, cck_1, cg1_0, cp1_0, cr1_1, cr1_2, cr1_3, cg1_4, cp1_4, cg1_5, cp1_5, cr1_6, cr1_7, cck_2, cr2_0, cr2_1, cr2_2, cck_3, cr3_0, cr3_1, cg3_2, cp3_2, cg3_3, cp3_3, cg3_4, cp3_4, cg3_5, cp3_5, cg3_6, cp3_6, cg3_7, cp3_7, cg3_8, cp3_8, cck_4, cg4_0, cp4_0, cg4_1, cp4_1, cr4_2, cr4_3, cr4_4, cr4_5, cck_5, cg5_0, cp5_0, cr5_1, cr5_2, cr5_3, cck_6, cg6_0, cp6_0, cg6_1, cp6_1, cck_7, cg7_0, cp7_0, cg7_1, cp7_1, cr7_2, cr7_3, cr7_4, cr7_5, cr7_6, cr7_7, cr7_8, cck_8, cr8_0, cr8_1, cck_9, cr9_0, cr9_1, cr9_2, cr9_3, cg9_4, cp9_4, cck_10, cg10_0, cp10_0, cr10_1, cr10_2, cr10_3, cr10_4, cg10_5, cp10_5, cr10_6, cr10_7, cr10_8, cg10_9, cp10_9, cg10_10, cp10_10, cr10_11, cr10_12, cr10_13, cr10_14, cck_11, cr11_0, cg11_1, cp11_1, cr11_2, cr11_3, cr11_4, cr11_5, cr11_6, cr11_7, cr11_8, cr11_9, cr11_10, cr11_11, cr11_12, cr11_13, cr11_14, ca_30, cs_30, ca_31, cs_31, ca_32, cs_32, ca_33, cs_33, ca_34, cs_34, ca_35, cs_35, ca_36, cs_36, ca_37, cs_37, ca_38, cs_38, ca_39, cs_39, ca_40, cs_40, ca_41, cs_41, ca_42, cs_42, car_20, car_21, car_22, cq11_3, cq11_4, cq3_1, cq0_0, cq0_1, if_true, if_false, Option.bind_some, cb_e, lt_e, nI_1, hs_nar2, nh4, upd_at, vau_at, ca_42_0, cs_42_0, h4, nI_jJ]
        refine ⟨_, _, rfl, ?_⟩
        rw [htk]
        exact fin 17 _ _ rfl (fun _ => rfl) (fun q => (by cases q)) _ _ rfl rfl
      · rw [if_pos (show (4 : Int32) < nI (e - i) from nI_lt (a := 4) (by omega) (by omega))]
        have htk : tokAt f i e = (19, 0, []) := by unfold tokAt; rw [hl, if_neg (by decide), hd, if_pos rfl, if_neg c4]
        obtain ⟨A', B', g1, g2, g3⟩ := b87 (Or.inr (Or.inl hd))
        refine ⟨A', B', g1, ?_⟩
        have hs : ∀ c, c < 256 → isD c = true → sgk c = 19 := by decide +kernel
        rw [hs _ (hf i) hd] at g2
        rw [htk]
        exact fin _ _ _ rfl (fun q => (by cases q)) (fun q => (by cases q)) _ _ g2 g3
    | false =>
      rw [if_pos b2f]
      have htk : tokAt f i e = (sgk (f i), 0, []) := by unfold tokAt; rw [hl, if_neg (by decide), hd, if_neg (by decide)]
      obtain ⟨A', B', g1, g2, g3⟩ := b87 (Or.inr (Or.inr trivial))
      refine ⟨A', B', g1, ?_⟩
      rw [htk]
      have hs : ∀ c, c < 256 → ¬ sgk c = 17 ∧ ¬ sgk c = 16 := by decide +kernel
      exact fin _ _ _ rfl (fun q => absurd q (hs _ (hf i)).1) (fun q => absurd q (hs _ (hf i)).2) _ _ g2 g3
end SC
