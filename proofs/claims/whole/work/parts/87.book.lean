/-! ===== a book is told: the pieces ===== -/
theorem slp_slp {w : Nat × Nat} {b : Bool} {k p : Nat} (hk : ¬ k = 0) : slp (slp w true k p) b k p = slp w true k p := by
  unfold slp
  by_cases c : w.1 = 0
  · rw [if_pos (show w.1 = 0 ∧ true = true from ⟨c, rfl⟩), if_neg (fun q => hk q.1)]
  · rw [if_neg (show ¬ (w.1 = 0 ∧ true = true) from fun q => c q.1), if_neg (fun q => c q.1)]
theorem slp_f {w : Nat × Nat} {k p : Nat} : slp w false k p = w := by
  unfold slp
  rw [if_neg (fun q => by cases q.2)]
theorem slp_n0 {w : Nat × Nat} {b : Bool} {k p : Nat} (h : ¬ w.1 = 0) : slp w b k p = w := by
  unfold slp
  rw [if_neg (fun q => h q.1)]
theorem flyL_0 {T : TD} {b : Nat} : ∀ m, (∀ f, f < m → ¬ tFb T f = b) → flyL T b m = 0 ∧ flyT T b m = 0
  | 0, _ => ⟨rfl, rfl⟩
  | m + 1, h => by
    have i := flyL_0 m (fun f hf => h f (by omega))
    rw [flyL, flyT, if_neg (h m (by omega)), if_neg (h m (by omega)), i.1, i.2]
    exact ⟨rfl, rfl⟩
section B87
variable {M : Nat} {K V PL : Nat → Nat} {B : Nat → Nat → Int64} {A : Nat → Nat → Int32}
theorem m_wr {F : Nat → Int32} {w : Nat × Nat} {k j : Nat} (h13 : F 13 = 0) (hw : SlM F w) (hk5 : k ≤ 5) (h16 : ¬ w.1 = 0 → w.2 < PL j ∨ w.2 = PL j ∧ w.1 ≤ k) (hj : j < 403) (h4 : A 4 j = nI (PL j)) (hp : PL j ≤ 2000) : ∃ F', fX12_wrong 0 (nI k) (nI j) (mkM F A B) = some ((), mkM F' A B) ∧ SlM F' (slp w true k (PL j)) ∧ ∀ x, ¬ x = 15 → ¬ x = 16 → F' x = F x := by
  refine ⟨_, m_wrong (sp := w.2) h13 hw.2.1 hw.1 hk5 (fun q => ⟨hw.2.2 q, h16 q⟩) hj h4 hp, ?_, wrF_ne _ _ _⟩
  unfold slp wrF
  by_cases c : w.1 = 0
  · rw [if_pos c, if_pos (show w.1 = 0 ∧ true = true from ⟨c, rfl⟩)]
    exact ⟨hk5, by rw [upd_ne (by decide), upd_at], fun _ => upd_at _ _ _⟩
  · rw [if_neg c, if_neg (fun q => c q.1)]
    exact hw
theorem m_book_go {n j : Nat} {x : Int32} {g : Nat → List Nat} {u : List Nat} (hn : n ≤ 6) (hg : ∀ i, i < n → B 8 i = jN (cN 27 (g i)) ∧ Nam (g i)) (hu : Nam u) (hj : j < 403) (h6 : B 6 j = jN (cN 27 u)) (h4 : A 4 j = nI (PL j)) (hp : PL j ≤ 2000) : ∀ m i fuel (F : Nat → Int32) (w : Nat × Nat), i + m = n → m < fuel → F 20 = nI n → F 13 = 0 → SlM F w → (¬ w.1 = 0 → w.2 < PL j ∨ w.2 = PL j ∧ w.1 ≤ 3) → ∃ F', fX12_tellBook_b30 fuel 0 x (nI j) (nI i) (mkM F A B) = fX12_tellBook_b73 0 x (nI j) (mkM F' A B) ∧ SlM F' (slp w (decide (¬ fndN g u m i = none)) 3 (PL j)) ∧ ∀ x, ¬ x = 15 → ¬ x = 16 → F' x = F x
  | 0, i, fuel, F, w, e, hf, h20, h13, hw, hl => by
    obtain ⟨fuel, rfl⟩ : ∃ q, fuel = q + 1 := ⟨fuel - 1, by omega⟩
    have n1 : nI n ≤ nI i := nI_le (by omega) (by omega)
    refine ⟨F, ?_, ?_, fun _ _ _ => rfl⟩
    · rw [fX12_tellBook_b30]
      simp -implicitDefEqProofs (disch := first | assumption | omega | decide | exact And.intro (by omega) (by omega)) only [mck, mg_0, mp_0, mr_1, mg_2, mp_2, mr_3, mg_4, mp_4, mr_5, mr_6, mr_7, mr_8, mr_9, mg_10, mp_10, mg_11, mp_11, mg_12, mp_12, mg_13, mp_13, mg_14, mp_14, mg_15, mp_15, mg_16, mp_16, mg_17, mp_17, mg_18, mp_18, mg_19, mp_19, mg_20, mp_20, mr_21, mr_22, mr_23, mr_24, mr_25, mr_26, mr_27, mr_28, mr_29, mr_30, mr_31, mr_32, mg_33, mp_33, mr_34, mr_35, mr_36, mr_37, mr_38, mg_39, mp_39, mr_40, mr_41, mr_42, mg_43, mp_43, mr_44, mr_45, mg_46, mp_46, mr_47, mr_48, mg_49, mp_49, mg_50, mp_50, mg_51, mp_51, mr_52, mr_53, mr_54, mg_55, mp_55, mr_56, mr_57, mg_58, mp_58, mg_59, mp_59, mg_60, mp_60, mr_61, mg_62, mp_62, mr_63, mr_64, mr_65, mr_66, mr_67, mr_68, ma_1, ms_1, ma_2, ms_2, ma_3, ms_3, ma_4, ms_4, ma_5, ms_5, ma_6, ms_6, ma_7, ms_7, ma_8, ms_8, ma_9, ms_9, ma_10, ms_10, ma_11, ms_11, ma_12, ms_12, ma_13, ms_13, ma_14, ms_14, ma_15, ms_15, ma_16, ms_16, ma_17, ms_17, ma_18, ms_18, ma_19, ms_19, ma_20, ms_20, ma_21, ms_21, ma_22, ms_22, ma_23, ms_23, ma_24, ms_24, ma_25, ms_25, ma_26, ms_26, ma_27, ms_27, ma_28, ms_28, ma_29, ms_29, ma_30, ms_30, ma_31, ms_31, ma_32, ms_32, ma_33, ms_33, ma_34, ms_34, ma_35, ms_35, ma_36, ms_36, ma_37, ms_37, ma_38, ms_38, ma_39, ms_39, ma_40, ms_40, ma_41, ms_41, ma_42, ms_42, ma_43, ms_43, if_true, if_false, Option.bind_some, cb_e, lt_e, nI_1, hs_nar2, nh4, upd_at, vau_at, ma_30_18, ms_30_18, ma_31_18, ms_31_18, ma_28_0, ms_28_0, ma_28_1, ms_28_1, ma_28_2, ms_28_2, ma_28_3, ms_28_3, ma_28_4, ms_28_4, ma_42_0, ms_42_0, ma_42_1, ms_42_1, ma_42_2, ms_42_2, ma_36_0, ms_36_0, h20, if_pos n1]
    · rw [fndN, decide_eq_false (fun q => q rfl), slp_f]
      exact hw
  | m + 1, i, fuel, F, w, e, hf, h20, h13, hw, hl => by
    obtain ⟨fuel, rfl⟩ : ∃ q, fuel = q + 1 := ⟨fuel - 1, by omega⟩
    have n1 : ¬ nI n ≤ nI i := fun q => by
      have := (nI_leI (by omega) (by omega)).1 q
      omega
    have hi6 : i < 6 := by omega
    obtain ⟨g1, g2⟩ := hg i (by omega)
    rw [fX12_tellBook_b30, fndN]
    unfold fX12_tellBook_b67
    simp -implicitDefEqProofs (disch := first | assumption | omega | decide | exact And.intro (by omega) (by omega)) only [mck, mg_0, mp_0, mr_1, mg_2, mp_2, mr_3, mg_4, mp_4, mr_5, mr_6, mr_7, mr_8, mr_9, mg_10, mp_10, mg_11, mp_11, mg_12, mp_12, mg_13, mp_13, mg_14, mp_14, mg_15, mp_15, mg_16, mp_16, mg_17, mp_17, mg_18, mp_18, mg_19, mp_19, mg_20, mp_20, mr_21, mr_22, mr_23, mr_24, mr_25, mr_26, mr_27, mr_28, mr_29, mr_30, mr_31, mr_32, mg_33, mp_33, mr_34, mr_35, mr_36, mr_37, mr_38, mg_39, mp_39, mr_40, mr_41, mr_42, mg_43, mp_43, mr_44, mr_45, mg_46, mp_46, mr_47, mr_48, mg_49, mp_49, mg_50, mp_50, mg_51, mp_51, mr_52, mr_53, mr_54, mg_55, mp_55, mr_56, mr_57, mg_58, mp_58, mg_59, mp_59, mg_60, mp_60, mr_61, mg_62, mp_62, mr_63, mr_64, mr_65, mr_66, mr_67, mr_68, ma_1, ms_1, ma_2, ms_2, ma_3, ms_3, ma_4, ms_4, ma_5, ms_5, ma_6, ms_6, ma_7, ms_7, ma_8, ms_8, ma_9, ms_9, ma_10, ms_10, ma_11, ms_11, ma_12, ms_12, ma_13, ms_13, ma_14, ms_14, ma_15, ms_15, ma_16, ms_16, ma_17, ms_17, ma_18, ms_18, ma_19, ms_19, ma_20, ms_20, ma_21, ms_21, ma_22, ms_22, ma_23, ms_23, ma_24, ms_24, ma_25, ms_25, ma_26, ms_26, ma_27, ms_27, ma_28, ms_28, ma_29, ms_29, ma_30, ms_30, ma_31, ms_31, ma_32, ms_32, ma_33, ms_33, ma_34, ms_34, ma_35, ms_35, ma_36, ms_36, ma_37, ms_37, ma_38, ms_38, ma_39, ms_39, ma_40, ms_40, ma_41, ms_41, ma_42, ms_42, ma_43, ms_43, if_true, if_false, Option.bind_some, cb_e, lt_e, nI_1, hs_nar2, nh4, upd_at, vau_at, ma_30_18, ms_30_18, ma_31_18, ms_31_18, ma_28_0, ms_28_0, ma_28_1, ms_28_1, ma_28_2, ms_28_2, ma_28_3, ms_28_3, ma_28_4, ms_28_4, ma_42_0, ms_42_0, ma_42_1, ms_42_1, ma_42_2, ms_42_2, ma_36_0, ms_36_0, h20, if_neg n1, h13, g1, h6, lg_cmp_eq]
    by_cases c : g i = u
    · rw [if_pos ((cN_eq (Or.inl rfl) g2 hu).2 c), if_pos c]
      obtain ⟨F1, w1, w2, w3⟩ := m_wr (B := B) h13 hw (k := 3) (by decide) hl hj h4 hp
      have w1' : fX12_wrong 0 3 (nI j) (mkM F A B) = some ((), mkM F1 A B) := w1
      obtain ⟨F2, i1, i2, i3⟩ := m_book_go hn hg hu hj h6 h4 hp m (i + 1) fuel F1 (slp w true 3 (PL j)) (by omega) (by omega) (by rw [w3 20 (by decide) (by decide)]; exact h20) (by rw [w3 13 (by decide) (by decide)]; exact h13) w2 (fun _ => by
        unfold slp
        by_cases c0 : w.1 = 0
        · rw [if_pos (show w.1 = 0 ∧ true = true from ⟨c0, rfl⟩)]
          exact Or.inr ⟨rfl, Nat.le_refl _⟩
        · rw [if_neg (fun q => c0 q.1)]
          exact hl c0)
      rw [slp_slp (by decide)] at i2
      refine ⟨F2, ?_, by rw [decide_eq_true (fun q => by cases q)]; exact i2, fun x q1 q2 => (i3 x q1 q2).trans (w3 x q1 q2)⟩
      simp -implicitDefEqProofs (disch := first | assumption | omega | decide | exact And.intro (by omega) (by omega)) only [mck, mg_0, mp_0, mr_1, mg_2, mp_2, mr_3, mg_4, mp_4, mr_5, mr_6, mr_7, mr_8, mr_9, mg_10, mp_10, mg_11, mp_11, mg_12, mp_12, mg_13, mp_13, mg_14, mp_14, mg_15, mp_15, mg_16, mp_16, mg_17, mp_17, mg_18, mp_18, mg_19, mp_19, mg_20, mp_20, mr_21, mr_22, mr_23, mr_24, mr_25, mr_26, mr_27, mr_28, mr_29, mr_30, mr_31, mr_32, mg_33, mp_33, mr_34, mr_35, mr_36, mr_37, mr_38, mg_39, mp_39, mr_40, mr_41, mr_42, mg_43, mp_43, mr_44, mr_45, mg_46, mp_46, mr_47, mr_48, mg_49, mp_49, mg_50, mp_50, mg_51, mp_51, mr_52, mr_53, mr_54, mg_55, mp_55, mr_56, mr_57, mg_58, mp_58, mg_59, mp_59, mg_60, mp_60, mr_61, mg_62, mp_62, mr_63, mr_64, mr_65, mr_66, mr_67, mr_68, ma_1, ms_1, ma_2, ms_2, ma_3, ms_3, ma_4, ms_4, ma_5, ms_5, ma_6, ms_6, ma_7, ms_7, ma_8, ms_8, ma_9, ms_9, ma_10, ms_10, ma_11, ms_11, ma_12, ms_12, ma_13, ms_13, ma_14, ms_14, ma_15, ms_15, ma_16, ms_16, ma_17, ms_17, ma_18, ms_18, ma_19, ms_19, ma_20, ms_20, ma_21, ms_21, ma_22, ms_22, ma_23, ms_23, ma_24, ms_24, ma_25, ms_25, ma_26, ms_26, ma_27, ms_27, ma_28, ms_28, ma_29, ms_29, ma_30, ms_30, ma_31, ms_31, ma_32, ms_32, ma_33, ms_33, ma_34, ms_34, ma_35, ms_35, ma_36, ms_36, ma_37, ms_37, ma_38, ms_38, ma_39, ms_39, ma_40, ms_40, ma_41, ms_41, ma_42, ms_42, ma_43, ms_43, if_true, if_false, Option.bind_some, cb_e, lt_e, nI_1, hs_nar2, nh4, upd_at, vau_at, ma_30_18, ms_30_18, ma_31_18, ms_31_18, ma_28_0, ms_28_0, ma_28_1, ms_28_1, ma_28_2, ms_28_2, ma_28_3, ms_28_3, ma_28_4, ms_28_4, ma_42_0, ms_42_0, ma_42_1, ms_42_1, ma_42_2, ms_42_2, ma_36_0, ms_36_0, w1']
      exact i1
    · rw [if_neg (fun q => c ((cN_eq (Or.inl rfl) g2 hu).1 q)), if_neg c]
      exact m_book_go hn hg hu hj h6 h4 hp m (i + 1) fuel F w (by omega) (by omega) h20 h13 hw hl
end B87
