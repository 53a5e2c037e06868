/-! ===== out, takings ===== -/
theorem bit_m : ∀ s, s < 64 → ∀ i, i < 6 → ((nI s >>> (nI i &&& 31)) &&& (1 : Int32)) = nI (s / 2 ^ i % 2) := by decide +kernel
theorem bit_c : ∀ s, s < 64 → ∀ i, i < 6 → ((nI s &&& ((1 : Int32) <<< (nI i &&& 31))) = 0 ↔ ¬ s / 2 ^ i % 2 = 1) := by decide +kernel
theorem bit_o : ∀ s, s < 64 → ∀ i, i < 6 → s / 2 ^ i % 2 = 1 → (nI s &&& (((1 : Int32) <<< (nI i &&& 31)) ^^^ (-1 : Int32))) = nI (s - 2 ^ i) := by decide +kernel
theorem bit_p : ∀ n, n ≤ 6 → ((1 : Int32) <<< (nI n &&& 31)) = nI (2 ^ n) := by decide +kernel
theorem bit_l : ∀ s, s < 64 → ∀ i, i < 6 → s / 2 ^ i % 2 = 1 → 2 ^ i ≤ s := by decide +kernel
theorem bit_z : ∀ n, n ≤ 6 → ∀ s, s < 2 ^ n → ∀ i, i < 6 → n ≤ i → ¬ s / 2 ^ i % 2 = 1 := by decide +kernel
theorem bit_a : ∀ n, n ≤ 6 → ∀ i, i < n → (2 ^ n - 1) / 2 ^ i % 2 = 1 := by decide +kernel
/-- the levels of P, from i on k of them, that s has, put on Q -/
def keS (P : AP) (s : Nat) : Nat → Nat → AP → AP
  | 0, _, Q => Q
  | k + 1, i, Q => keS P s k (i + 1) (if s / 2 ^ i % 2 = 1 then apPut Q (pB P i) (pP P i) (if 0 < i ∧ s / 2 ^ (i - 1) % 2 = 1 then pG P i else 0) else Q)
def keep (P : AP) (s : Nat) : AP := keS P s P.1 0 (0, P.2)
/-- what Q is: some of P's levels below i -/
def Sub (nb : Nat) (P : AP) (i : Nat) (Q : AP) : Prop := Q.1 ≤ i ∧ (∀ j, j < Q.1 → ∃ k, k < i ∧ pB Q j = pB P k ∧ pP Q j = pP P k) ∧ (∀ j l, j < Q.1 → l < Q.1 → pB Q j = pB Q l → j = l) ∧ ∀ j, j < Q.1 → pG Q j = 0 ∨ pG Q j = 1
theorem Sub.put {nb : Nat} {P : AP} {i : Nat} {Q : AP} (hP : BigP nb P) (hi : i < P.1) (h : Sub nb P i Q) {g : Int32} (hg : g = 0 ∨ g = 1) : Sub nb P (i + 1) (apPut Q (pB P i) (pP P i) g) := by
  obtain ⟨h1, h2, h3, h4⟩ := h
  have e0 : (apPut Q (pB P i) (pP P i) g).1 = Q.1 + 1 := rfl
  have e1 : ∀ j, pB (apPut Q (pB P i) (pP P i) g) j = if j = Q.1 then pB P i else pB Q j := fun _ => rfl
  have e2 : ∀ j, pP (apPut Q (pB P i) (pP P i) g) j = if j = Q.1 then pP P i else pP Q j := fun _ => rfl
  have e3 : ∀ j, pG (apPut Q (pB P i) (pP P i) g) j = if j = Q.1 then g else pG Q j := fun _ => rfl
  have new : ∀ j, j < Q.1 → ¬ pB Q j = pB P i := fun j hj q => by
    obtain ⟨k, k1, k2, k3⟩ := h2 j hj
    have := hP.2.2.1 k i (by omega) hi (by rw [← k2, q])
    omega
  refine ⟨by omega, fun j hj => ?_, fun j l hj hl => ?_, fun j hj => ?_⟩
  · rw [e1, e2]
    by_cases c : j = Q.1
    · rw [if_pos c, if_pos c]; exact ⟨i, by omega, rfl, rfl⟩
    · rw [if_neg c, if_neg c]
      obtain ⟨k, k1, k2⟩ := h2 j (by omega)
      exact ⟨k, by omega, k2⟩
  · rw [e1, e1]
    by_cases c : j = Q.1
    · by_cases c' : l = Q.1
      · omega
      · rw [if_pos c, if_neg c']
        exact fun q => absurd q.symm (new l (by omega))
    · by_cases c' : l = Q.1
      · rw [if_neg c, if_pos c']
        exact fun q => absurd q (new j (by omega))
      · rw [if_neg c, if_neg c']
        exact h3 j l (by omega) (by omega)
  · rw [e3]
    by_cases c : j = Q.1
    · rw [if_pos c]; exact hg
    · rw [if_neg c]; exact h4 j (by omega)
theorem Sub.up {nb : Nat} {P : AP} {i : Nat} {Q : AP} (h : Sub nb P i Q) : Sub nb P (i + 1) Q := ⟨by have := h.1; omega, fun j hj => by obtain ⟨k, k1, k2⟩ := h.2.1 j hj; exact ⟨k, by omega, k2⟩, h.2.2.1, h.2.2.2⟩
theorem Sub.big {nb : Nat} {P : AP} {Q : AP} (hP : BigP nb P) (h : Sub nb P P.1 Q) : BigP nb Q := by
  obtain ⟨h1, h2, h3, h4⟩ := h
  have h6 := hP.1
  refine ⟨by omega, fun j hj => ?_, h3, fun j hj => ?_, h4⟩
  · obtain ⟨k, k1, k2, k3⟩ := h2 j hj
    rw [k2]; exact hP.2.1 k k1
  · obtain ⟨k, k1, k2, k3⟩ := h2 j hj
    rw [k3]; exact hP.2.2.2.1 k k1
theorem keG {P : AP} {nb : Nat} (hP : BigP nb P) {s i : Nat} (hi : i < P.1) : (if 0 < i ∧ s / 2 ^ (i - 1) % 2 = 1 then pG P i else 0) = 0 ∨ (if 0 < i ∧ s / 2 ^ (i - 1) % 2 = 1 then pG P i else 0) = (1 : Int32) := by
  split
  · exact hP.2.2.2.2 i hi
  · exact Or.inl rfl
theorem keS_sub {nb : Nat} {P : AP} (hP : BigP nb P) (s : Nat) : ∀ k i Q, i + k = P.1 → Sub nb P i Q → Sub nb P P.1 (keS P s k i Q)
  | 0, i, Q, h, hs => by
    have : i = P.1 := by omega
    subst this
    exact hs
  | k + 1, i, Q, h, hs => by
    unfold keS
    refine keS_sub hP s k (i + 1) _ (by omega) ?_
    split
    · exact hs.put hP (by omega) (keG hP (by omega))
    · exact hs.up
theorem keep_big {nb : Nat} {P : AP} (hP : BigP nb P) (s : Nat) : BigP nb (keep P s) := Sub.big hP (keS_sub hP s P.1 0 _ (by omega) ⟨Nat.le_refl 0, fun j hj => absurd hj (Nat.not_lt_zero j), fun j l hj => absurd hj (Nat.not_lt_zero j), fun j hj => absurd hj (Nat.not_lt_zero j)⟩)
theorem c_keepOf {F A : Nat → Nat → Int32} (B : Nat → Nat → Int64) (r : Nat → Nat) {nb : Nat} {P : AP} (h5 : CPile F A 38 P) (hP : BigP nb P) (hnb : nb ≤ 6) {s : Nat} (hs : s < 64) : ∃ F' A', fX5_keepOf 42 38 (nI s) (mkC F A B r) = some ((), mkC F' A' B r) ∧ CPile F' A' 42 (keep P s) ∧ OnlyP 42 F F' A A' := by
  have h6 := hP.1
  have key : ∀ k i fuel Q, i + k = P.1 → k < fuel → Sub nb P i Q → ∀ (F1 A1 : Nat → Nat → Int32), OnlyP 42 F F1 A A1 → CPile F1 A1 42 Q → ∃ F' A', fX5_keepOf_b7 fuel 42 38 (nI s) (nI i) (mkC F1 A1 B r) = some ((), mkC F' A' B r) ∧ CPile F' A' 42 (keS P s k i Q) ∧ OnlyP 42 F F' A A' := by
    intro k
    induction k with
    | zero =>
      intro i fuel Q h1 h2 hq F1 A1 g1 g2
      obtain ⟨fuel, rfl⟩ : ∃ q, fuel = q + 1 := ⟨fuel - 1, by omega⟩
      have hsz : F1 38 0 = nI P.1 := by rw [g1.1 38 (by omega)]; exact h5.1
      rw [fX5_keepOf_b7]
      simp -implicitDefEqProofs (disch := first | assumption | omega | decide | exact And.intro (by omega) (by omega)) only [cck_0, cr0_0, cr0_1, cr0_2, cr0_3, cg0_4, cp0_4, cg0_5, cp0_5, cck_1, cg1_0, cp1_0, cr1_1, cr1_2, cr1_3, cg1_4, cp1_4, cg1_5, cp1_5, cr1_6, cr1_7, cck_2, cr2_0, cr2_1, cr2_2, cck_3, cr3_0, cr3_1, cg3_2, cp3_2, cg3_3, cp3_3, cg3_4, cp3_4, cg3_5, cp3_5, cg3_6, cp3_6, cg3_7, cp3_7, cg3_8, cp3_8, cck_4, cg4_0, cp4_0, cg4_1, cp4_1, cr4_2, cr4_3, cr4_4, cr4_5, cck_5, cg5_0, cp5_0, cr5_1, cr5_2, cr5_3, cck_6, cg6_0, cp6_0, cg6_1, cp6_1, cck_7, cg7_0, cp7_0, cg7_1, cp7_1, cr7_2, cr7_3, cr7_4, cr7_5, cr7_6, cr7_7, cr7_8, cck_8, cr8_0, cr8_1, cck_9, cr9_0, cr9_1, cr9_2, cr9_3, cg9_4, cp9_4, cck_10, cg10_0, cp10_0, cr10_1, cr10_2, cr10_3, cr10_4, cg10_5, cp10_5, cr10_6, cr10_7, cr10_8, cg10_9, cp10_9, cg10_10, cp10_10, cr10_11, cr10_12, cr10_13, cr10_14, cck_11, cr11_0, cg11_1, cp11_1, cr11_2, cr11_3, cr11_4, cr11_5, cr11_6, cr11_7, cr11_8, cr11_9, cr11_10, cr11_11, cr11_12, cr11_13, cr11_14, ca_30, cs_30, ca_31, cs_31, ca_32, cs_32, ca_33, cs_33, ca_34, cs_34, ca_35, cs_35, ca_36, cs_36, ca_37, cs_37, ca_38, cs_38, ca_39, cs_39, ca_40, cs_40, ca_41, cs_41, ca_42, cs_42, car_20, car_21, car_22, cq11_3, cq11_4, cq3_1, cq0_0, cq0_1, if_true, if_false, Option.bind_some, cb_e, lt_e, nI_1, hs_nar2, nh4, upd_at, vau_at, ca_42_0, cs_42_0, hsz]
      rw [if_pos (nI_le (by omega) (by omega))]
      exact ⟨_, _, rfl, g2, g1⟩
    | succ k ih =>
      intro i fuel Q h1 h2 hq F1 A1 g1 g2
      obtain ⟨fuel, rfl⟩ : ∃ q, fuel = q + 1 := ⟨fuel - 1, by omega⟩
      have hi : i < P.1 := by omega
      have hsz : F1 38 0 = nI P.1 := by rw [g1.1 38 (by omega)]; exact h5.1
      obtain ⟨e1, e2, e3⟩ := h5.2 i hi
      have e1' : A1 (38 + 1) i = nI (pB P i) := by rw [g1.2 _ (by omega) (by omega) (by omega)]; exact e1
      have e2' : A1 (38 + 2) i = iI (pP P i) := by rw [g1.2 _ (by omega) (by omega) (by omega)]; exact e2
      have e3' : A1 (38 + 3) i = pG P i := by rw [g1.2 _ (by omega) (by omega) (by omega)]; exact e3
      have hb := hP.2.1 i hi
      have hg := hP.2.2.2.2 i hi
      have bi := bit_c s hs i (by omega)
      /- with the flag y -/
      have st : ∀ y : Int32, (y = if 0 < i ∧ s / 2 ^ (i - 1) % 2 = 1 then 1 else 0) → ∃ F' A', fX5_keepOf_b34 (fX5_keepOf_b7 fuel) 42 38 (nI s) (nI i) y (mkC F1 A1 B r) = some ((), mkC F' A' B r) ∧ CPile F' A' 42 (keS P s (k + 1) i Q) ∧ OnlyP 42 F F' A A' := by
        intro y hy
        unfold fX5_keepOf_b34
        rw [keS]
        by_cases cb1 : s / 2 ^ i % 2 = 1
        · rw [if_neg (fun q => bi.1 q cb1), if_pos cb1]
          simp -implicitDefEqProofs (disch := first | assumption | omega | decide | exact And.intro (by omega) (by omega)) only [cck_0, cr0_0, cr0_1, cr0_2, cr0_3, cg0_4, cp0_4, cg0_5, cp0_5, cck_1, cg1_0, cp1_0, cr1_1, cr1_2, cr1_3, cg1_4, cp1_4, cg1_5, cp1_5, cr1_6, cr1_7, cck_2, cr2_0, cr2_1, cr2_2, cck_3, cr3_0, cr3_1, cg3_2, cp3_2, cg3_3, cp3_3, cg3_4, cp3_4, cg3_5, cp3_5, cg3_6, cp3_6, cg3_7, cp3_7, cg3_8, cp3_8, cck_4, cg4_0, cp4_0, cg4_1, cp4_1, cr4_2, cr4_3, cr4_4, cr4_5, cck_5, cg5_0, cp5_0, cr5_1, cr5_2, cr5_3, cck_6, cg6_0, cp6_0, cg6_1, cp6_1, cck_7, cg7_0, cp7_0, cg7_1, cp7_1, cr7_2, cr7_3, cr7_4, cr7_5, cr7_6, cr7_7, cr7_8, cck_8, cr8_0, cr8_1, cck_9, cr9_0, cr9_1, cr9_2, cr9_3, cg9_4, cp9_4, cck_10, cg10_0, cp10_0, cr10_1, cr10_2, cr10_3, cr10_4, cg10_5, cp10_5, cr10_6, cr10_7, cr10_8, cg10_9, cp10_9, cg10_10, cp10_10, cr10_11, cr10_12, cr10_13, cr10_14, cck_11, cr11_0, cg11_1, cp11_1, cr11_2, cr11_3, cr11_4, cr11_5, cr11_6, cr11_7, cr11_8, cr11_9, cr11_10, cr11_11, cr11_12, cr11_13, cr11_14, ca_30, cs_30, ca_31, cs_31, ca_32, cs_32, ca_33, cs_33, ca_34, cs_34, ca_35, cs_35, ca_36, cs_36, ca_37, cs_37, ca_38, cs_38, ca_39, cs_39, ca_40, cs_40, ca_41, cs_41, ca_42, cs_42, car_20, car_21, car_22, cq11_3, cq11_4, cq3_1, cq0_0, cq0_1, if_true, if_false, Option.bind_some, cb_e, lt_e, nI_1, hs_nar2, nh4, upd_at, vau_at, ca_42_0, cs_42_0, e1', e2', e3']
          have q1 := hq.1
          obtain ⟨F2, A2, z1, z2, z3⟩ := c_put B r (PA_of (Or.inr rfl)) g2 (show Q.1 < 6 by omega) (b := pB P i) (by omega) (pP P i) (keG (s := s) hP hi)
          have fin : fX5_keepOf_b76 (fX5_keepOf_b7 fuel) 42 38 (nI s) (nI i) 42 (nI (pB P i)) (iI (pP P i)) (if 0 < i ∧ s / 2 ^ (i - 1) % 2 = 1 then pG P i else 0) (mkC F1 A1 B r) = fX5_keepOf_b7 fuel 42 38 (nI s) (nI (i + 1)) (mkC F2 A2 B r) := by
            unfold fX5_keepOf_b76 fX5_keepOf_b79
            rw [z1]
            simp only [cb, Option.bind_some, nI_1]
          have hsel : (if pG P i = 0 then fX5_keepOf_b75 (fX5_keepOf_b7 fuel) 42 38 (nI s) (nI i) 42 (nI (pB P i)) (iI (pP P i)) (mkC F1 A1 B r) else if y = 0 then fX5_keepOf_b75 (fX5_keepOf_b7 fuel) 42 38 (nI s) (nI i) 42 (nI (pB P i)) (iI (pP P i)) (mkC F1 A1 B r) else fX5_keepOf_b76 (fX5_keepOf_b7 fuel) 42 38 (nI s) (nI i) 42 (nI (pB P i)) (iI (pP P i)) 1 (mkC F1 A1 B r)) = fX5_keepOf_b76 (fX5_keepOf_b7 fuel) 42 38 (nI s) (nI i) 42 (nI (pB P i)) (iI (pP P i)) (if 0 < i ∧ s / 2 ^ (i - 1) % 2 = 1 then pG P i else 0) (mkC F1 A1 B r) := by
            unfold fX5_keepOf_b75
            by_cases c2 : 0 < i ∧ s / 2 ^ (i - 1) % 2 = 1
            · rw [if_pos c2] at hy
              rw [if_pos c2]
              rcases hg with hg | hg
              · rw [if_pos hg, hg]
              · rw [if_neg (by rw [hg]; decide), if_neg (by rw [hy]; decide), hg]
            · rw [if_neg c2] at hy
              rw [if_neg c2]
              rcases hg with hg | hg
              · rw [if_pos hg]
              · rw [if_neg (by rw [hg]; decide), if_pos hy]
          rw [hsel, fin]
          exact ih (i + 1) fuel _ (by omega) (by omega) (hq.put hP hi (keG hP hi)) F2 A2 (g1.tr z3) z2
        · rw [if_pos (bi.2 cb1), if_neg cb1]
          unfold fX5_keepOf_b79
          rw [nI_1]
          exact ih (i + 1) fuel Q (by omega) (by omega) hq.up F1 A1 g1 g2
      rw [fX5_keepOf_b7]
      simp -implicitDefEqProofs (disch := first | assumption | omega | decide | exact And.intro (by omega) (by omega)) only [cck_0, cr0_0, cr0_1, cr0_2, cr0_3, cg0_4, cp0_4, cg0_5, cp0_5, cck_1, cg1_0, cp1_0, cr1_1, cr1_2, cr1_3, cg1_4, cp1_4, cg1_5, cp1_5, cr1_6, cr1_7, cck_2, cr2_0, cr2_1, cr2_2, cck_3, cr3_0, cr3_1, cg3_2, cp3_2, cg3_3, cp3_3, cg3_4, cp3_4, cg3_5, cp3_5, cg3_6, cp3_6, cg3_7, cp3_7, cg3_8, cp3_8, cck_4, cg4_0, cp4_0, cg4_1, cp4_1, cr4_2, cr4_3, cr4_4, cr4_5, cck_5, cg5_0, cp5_0, cr5_1, cr5_2, cr5_3, cck_6, cg6_0, cp6_0, cg6_1, cp6_1, cck_7, cg7_0, cp7_0, cg7_1, cp7_1, cr7_2, cr7_3, cr7_4, cr7_5, cr7_6, cr7_7, cr7_8, cck_8, cr8_0, cr8_1, cck_9, cr9_0, cr9_1, cr9_2, cr9_3, cg9_4, cp9_4, cck_10, cg10_0, cp10_0, cr10_1, cr10_2, cr10_3, cr10_4, cg10_5, cp10_5, cr10_6, cr10_7, cr10_8, cg10_9, cp10_9, cg10_10, cp10_10, cr10_11, cr10_12, cr10_13, cr10_14, cck_11, cr11_0, cg11_1, cp11_1, cr11_2, cr11_3, cr11_4, cr11_5, cr11_6, cr11_7, cr11_8, cr11_9, cr11_10, cr11_11, cr11_12, cr11_13, cr11_14, ca_30, cs_30, ca_31, cs_31, ca_32, cs_32, ca_33, cs_33, ca_34, cs_34, ca_35, cs_35, ca_36, cs_36, ca_37, cs_37, ca_38, cs_38, ca_39, cs_39, ca_40, cs_40, ca_41, cs_41, ca_42, cs_42, car_20, car_21, car_22, cq11_3, cq11_4, cq3_1, cq0_0, cq0_1, if_true, if_false, Option.bind_some, cb_e, lt_e, nI_1, hs_nar2, nh4, upd_at, vau_at, ca_42_0, cs_42_0, hsz]
      rw [if_neg (nI_ge (by omega) (by omega))]
      unfold fX5_keepOf_b33
      by_cases c0 : i = 0
      · rw [if_pos (show nI i ≤ 0 by rw [c0]; decide)]
        exact st 0 (by rw [if_neg (by omega)])
      · rw [if_neg (nI_nle (by omega) (by omega))]
        have c3 : nI i - 1 = nI (i - 1) := pk_sub (b := 1) (by omega)
        have bi1 := bit_c s hs (i - 1) (by omega)
        rw [c3]
        by_cases c4 : s / 2 ^ (i - 1) % 2 = 1
        · rw [if_neg (fun q => bi1.1 q c4)]
          exact st 1 (by rw [if_pos ⟨by omega, c4⟩])
        · rw [if_pos (bi1.2 c4)]
          exact st 0 (by rw [if_neg (fun q => c4 q.2)])
  obtain ⟨F', A', z1, z2, z3⟩ := key P.1 0 FU (0, P.2) (by omega) (by unfold FU; omega) ⟨Nat.le_refl 0, fun j hj => absurd hj (Nat.not_lt_zero j), fun j l hj => absurd hj (Nat.not_lt_zero j), fun j hj => absurd hj (Nat.not_lt_zero j)⟩ (va_up F 42 (upd (F 42) 0 0)) A ⟨fun c hc => vau_ne hc, fun _ _ _ _ => rfl⟩ ⟨by rw [vau_at]; exact upd_at _ _ _, fun i hi => absurd hi (Nat.not_lt_zero i)⟩
  refine ⟨F', A', ?_, z2, z3⟩
  unfold fX5_keepOf
  simp -implicitDefEqProofs (disch := first | assumption | omega | decide | exact And.intro (by omega) (by omega)) only [cck_0, cr0_0, cr0_1, cr0_2, cr0_3, cg0_4, cp0_4, cg0_5, cp0_5, cck_1, cg1_0, cp1_0, cr1_1, cr1_2, cr1_3, cg1_4, cp1_4, cg1_5, cp1_5, cr1_6, cr1_7, cck_2, cr2_0, cr2_1, cr2_2, cck_3, cr3_0, cr3_1, cg3_2, cp3_2, cg3_3, cp3_3, cg3_4, cp3_4, cg3_5, cp3_5, cg3_6, cp3_6, cg3_7, cp3_7, cg3_8, cp3_8, cck_4, cg4_0, cp4_0, cg4_1, cp4_1, cr4_2, cr4_3, cr4_4, cr4_5, cck_5, cg5_0, cp5_0, cr5_1, cr5_2, cr5_3, cck_6, cg6_0, cp6_0, cg6_1, cp6_1, cck_7, cg7_0, cp7_0, cg7_1, cp7_1, cr7_2, cr7_3, cr7_4, cr7_5, cr7_6, cr7_7, cr7_8, cck_8, cr8_0, cr8_1, cck_9, cr9_0, cr9_1, cr9_2, cr9_3, cg9_4, cp9_4, cck_10, cg10_0, cp10_0, cr10_1, cr10_2, cr10_3, cr10_4, cg10_5, cp10_5, cr10_6, cr10_7, cr10_8, cg10_9, cp10_9, cg10_10, cp10_10, cr10_11, cr10_12, cr10_13, cr10_14, cck_11, cr11_0, cg11_1, cp11_1, cr11_2, cr11_3, cr11_4, cr11_5, cr11_6, cr11_7, cr11_8, cr11_9, cr11_10, cr11_11, cr11_12, cr11_13, cr11_14, ca_30, cs_30, ca_31, cs_31, ca_32, cs_32, ca_33, cs_33, ca_34, cs_34, ca_35, cs_35, ca_36, cs_36, ca_37, cs_37, ca_38, cs_38, ca_39, cs_39, ca_40, cs_40, ca_41, cs_41, ca_42, cs_42, car_20, car_21, car_22, cq11_3, cq11_4, cq3_1, cq0_0, cq0_1, if_true, if_false, Option.bind_some, cb_e, lt_e, nI_1, hs_nar2, nh4, upd_at, vau_at, ca_42_0, cs_42_0]
  exact z1
