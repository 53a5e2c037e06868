/-! ===== the model reads expressions: joins and units ===== -/
section MX79
variable {cb M : Nat} {K V PL : Nat → Nat} {B : Nat → Nat → Int64}
/-- level l: 0 a unit, 1 a part, 2 an expression -/
def HW (l : Nat) (W : List Nat) : Prop := (1 ≤ l → Stop (2 - l) W)
def HP (l : Nat) (P : List Nat) : Prop := P.length ≤ l ∧ AllP (2 - l) P
def MIm (cb M : Nat) (K V PL : Nat → Nat) (B : Nat → Nat → Int64) (l : Nat) (S : Nat → Nat → Rs) (n0 : Nat) : Prop := ∀ n t c W F A f fu, n0 ≤ n → n ≤ 6 → t ≤ M → MSt cb M K V PL n t c W F A → W.length + l ≤ 3 * n + 2 → HW l W → 402 ≤ f + t → 402 ≤ fu + t → (¬ (S n t).1 = 0 → ∃ F' A', OW f fu (mkM F A B) = some ((), mkM F' A' B) ∧ MPo F' PL (S n t).1 (S n t).2.1 ∧ MTr c (cb + 402) F F' A A') ∧ ((S n t).1 = 0 → ∃ F' A' f' fu' P L, OW f fu (mkM F A B) = AO f' fu' (mkM F' A' B) ∧ MSt cb M K V PL n (S n t).2.1 (c + L.length) (P ++ W) F' A' ∧ SegM A' c L ∧ (S n t).2.2 = L ++ P.map opM ∧ HP l P ∧ MTr c (cb + 402) F F' A A' ∧ 402 ≤ f' + (S n t).2.1 ∧ 402 ≤ fu' + (S n t).2.1)
theorem AllP.zero {x : Nat} {P : List Nat} (h : AllP x P) : AllP 0 P := fun k hk => by
  have := h k hk
  unfold pop1 at this ⊢
  rw [Bool.and_eq_true] at this
  rw [this.1]
  rfl
theorem AllP.app {x : Nat} {P Q : List Nat} (h : AllP x P) (g : AllP x Q) : AllP x (P ++ Q) := fun k hk => (List.mem_append.1 hk).elim (h k) (g k)
/-- the loop behind the first operand -/
theorem m_loop {l x y z n0 n : Nat} {U : Nat → Nat → Rs} {hh : Nat → Nat} (hcb : cb ≤ 420) (hK : TkK M K V) (hl : l ≤ 1) (hz : z = 1 - l) (hsg : ∀ k, k = x ∨ k = y → (¬ k = 18 ∧ ¬ k = 41) ∧ vk k = true ∧ pop1 z (mkk k) = true ∧ (1 ≤ l → pop1 1 (mkk k) = false) ∧ opM (mkk k) = (sgo k, 0)) (hst : ∀ t F A f, t ≤ M → MPo F PL 0 t → MTk A M K V PL → K t = x ∨ K t = y → fX12_expression_b145 (fX12_expression_b12 f) 0 0 (mkM F A B) = fX12_expression_b234 (fX12_expression_b12 f) 0 0 1 0 (nI z) (mkM F A B)) (hn0 : n0 ≤ n) (hn : n ≤ 6) (hS : SpOK n0 M hh U) (hU : MIm cb M K V PL B l U n0) : ∀ m t c W F A f fu P L C, t ≤ M → 401 ≤ t + m → MSt cb M K V PL n t (c + L.length) (P ++ W) F A → W.length + (l + 1) ≤ 3 * n + 2 → HW (l + 1) W → SegM A c L → C = L ++ P.map opM → HP (l + 1) P → 402 ≤ f + t → 402 ≤ fu + t → (¬ (pL K x y U m n t C).1 = 0 → ∃ F' A', AO f fu (mkM F A B) = some ((), mkM F' A' B) ∧ MPo F' PL (pL K x y U m n t C).1 (pL K x y U m n t C).2.1 ∧ MTr c (cb + 402) F F' A A') ∧ ((pL K x y U m n t C).1 = 0 → ∃ F' A' f' fu' P L, AO f fu (mkM F A B) = AO f' fu' (mkM F' A' B) ∧ MSt cb M K V PL n (pL K x y U m n t C).2.1 (c + L.length) (P ++ W) F' A' ∧ SegM A' c L ∧ (pL K x y U m n t C).2.2 = L ++ P.map opM ∧ HP (l + 1) P ∧ MTr c (cb + 402) F F' A A' ∧ 402 ≤ f' + (pL K x y U m n t C).2.1 ∧ 402 ≤ fu' + (pL K x y U m n t C).2.1) := by
  have hM := hK.1
  have e2l : 2 - (l + 1) = z := by omega
  intro m
  induction m with
  | zero =>
    intro t c W F A f fu P L C ht hm
    omega
  | succ m ih =>
    intro t c W F A f fu P L C ht hm hs hw hW hsg0 hC hP hf hfu
    have hc0 : c ≤ cb + 402 := by
      have := hs.2.2.2.2.2
      omega
    have rf0 : MTr c (cb + 402) F F A A := ⟨fun _ _ _ _ _ _ _ => rfl, fun _ _ _ _ => rfl, fun _ _ => ⟨rfl, rfl⟩, c + L.length, hs.2.2.2.2.1, by omega, by have := hs.2.2.2.2.2; omega⟩
    rw [pL]
    by_cases cs : K t = x ∨ K t = y
    · rw [if_pos cs]
      obtain ⟨⟨k18, k41⟩, kv, kz, kl, ko⟩ := hsg (K t) cs
      obtain ⟨f, rfl⟩ : ∃ q, f = q + 1 := ⟨f - 1, by omega⟩
      obtain ⟨fu, rfl⟩ : ∃ q, fu = q + 1 := ⟨fu - 1, by omega⟩
      have hW' : Stop z W := by
        have := hW (by omega)
        rw [e2l] at this
        exact this
      have hP' : AllP z P := by
        have := hP.2
        rw [e2l] at this
        exact this
      have hPl := hP.1
      obtain ⟨F1, A1, a1, a2, a3, a4⟩ := m_234 (B := B) (f := f) (by omega) hcb hK ht hs hP' hW' (by rw [List.length_append]; omega) k18
      have step : AO (f + 1) (fu + 1) (mkM F A B) = fX12_expression_b234 (fX12_expression_b12 (f + 1)) 0 0 1 0 (nI z) (mkM F A B) := by
        unfold AO
        rw [m_96 hK ht hs.1.1 hs.1.2 hs.2.1 (by omega) (fun q => k41 q.1)]
        exact hst t F A (f + 1) ht hs.1.1 hs.1.2 cs
      have tr1 : MTr c (cb + 402) F F1 A A1 := ⟨a1.1, a1.2.1, fun j hj => a1.2.2.1 j (by omega), a1.2.2.2.elim fun c' q => ⟨c', q.1, by omega, q.2.2⟩⟩
      by_cases c4 : t < 400
      · rw [if_pos c4]
        obtain ⟨b1, b2⟩ := a3 c4
        have t1 := hK.on ht k18 c4
        have lW : (mkk (K t) :: W).length = W.length + 1 := rfl
        obtain ⟨u1, u2⟩ := hU n (t + 1) (c + L.length + P.length) (mkk (K t) :: W) F1 A1 f FU hn0 hn t1 b2 (by rw [lW]; omega) (fun q => by
          have l1 : l = 1 := by omega
          rw [l1]
          exact Stop.cons (kl q)) (by omega) (by unfold FU; omega)
        obtain ⟨⟨s1, s2, s3⟩, s4⟩ := hS n (t + 1) hn0 hn t1
        by_cases cU : (U n (t + 1)).1 = 0
        · rw [if_pos cU]
          obtain ⟨F2, A2, f2, fu2, P2, L2, v1, v2, v3, v4, v5, v6, v7, v8⟩ := u2 cU
          have sC1 : SegM A1 c C := by
            rw [hC]
            refine SegM.app _ (hsg0.eq (fun j _ hj => a1.2.2.1 j (Or.inl hj))) a2
          have lC : C.length = L.length + P.length := by rw [hC, List.length_append, List.length_map]
          have sC2 : SegM A2 c C := sC1.eq (fun j _ hj => v6.2.2.1 j (by omega))
          have sL : SegM A2 c (C ++ L2) := SegM.app _ sC2 (by rw [lC, ← Nat.add_assoc]; exact v3)
          have eP : P2 ++ mkk (K t) :: W = (P2 ++ [mkk (K t)]) ++ W := by rw [List.append_assoc]; rfl
          have eL : c + L.length + P.length + L2.length = c + (C ++ L2).length := by rw [List.length_append, lC]; omega
          rw [eP, eL] at v2
          obtain ⟨i1, i2⟩ := ih (U n (t + 1)).2.1 c W F2 A2 f2 fu2 (P2 ++ [mkk (K t)]) (C ++ L2) (C ++ (U n (t + 1)).2.2 ++ [(sgo (K t), 0)]) s2 (by omega) v2 hw hW sL (by
            rw [v4, List.map_append, List.append_assoc, List.append_assoc, List.append_assoc, List.map_cons, List.map_nil, ko]) ⟨by rw [List.length_append]; have := v5.1; show P2.length + 1 ≤ l + 1; omega, by
              rw [e2l]
              refine AllP.app ?_ (fun k hk => by rw [List.mem_singleton.1 hk]; exact kz)
              by_cases l0 : l = 0
              · have p0 : P2 = [] := List.eq_nil_of_length_eq_zero (by have := v5.1; omega)
                rw [p0]
                exact fun k hk => absurd hk List.not_mem_nil
              · have z0 : z = 0 := by omega
                rw [z0]
                exact v5.2.zero⟩ v7 v8
          have tr2 : MTr c (cb + 402) F F2 A A2 := tr1.tr v6 (by omega)
          refine ⟨fun q => ?_, fun q => ?_⟩
          · obtain ⟨F3, A3, j1, j2, j3⟩ := i1 q
            exact ⟨F3, A3, by rw [step, b1, v1, j1], j2, tr2.tr j3 (Nat.le_refl _)⟩
          · obtain ⟨F3, A3, f3, fu3, P3, L3, j1, j2, j3, j4, j5, j6, j7⟩ := i2 q
            exact ⟨F3, A3, f3, fu3, P3, L3, by rw [step, b1, v1, j1], j2, j3, j4, j5, tr2.tr j6 (Nat.le_refl _), j7⟩
        · rw [if_neg cU]
          refine ⟨fun q => ?_, fun q => absurd q cU⟩
          obtain ⟨F2, A2, v1, v2, v3⟩ := u1 cU
          exact ⟨F2, A2, by rw [step, b1, v1], v2, tr1.tr v3 (by omega)⟩
      · rw [if_neg c4]
        obtain ⟨b1, b2⟩ := a4 c4
        exact ⟨fun _ => ⟨F1, A1, by rw [step, b1], b2, tr1⟩, fun q => (by cases q)⟩
    · rw [if_neg cs]
      exact ⟨fun q => absurd rfl q, fun _ => ⟨F, A, f, fu, P, L, rfl, hs, hsg0, hC, hP, rf0, hf, hfu⟩⟩
theorem m_join {l x y z n0 : Nat} {U : Nat → Nat → Rs} {hh : Nat → Nat} (hcb : cb ≤ 420) (hK : TkK M K V) (hl : l ≤ 1) (hz : z = 1 - l) (hsg : ∀ k, k = x ∨ k = y → (¬ k = 18 ∧ ¬ k = 41) ∧ vk k = true ∧ pop1 z (mkk k) = true ∧ (1 ≤ l → pop1 1 (mkk k) = false) ∧ opM (mkk k) = (sgo k, 0)) (hst : ∀ t F A f, t ≤ M → MPo F PL 0 t → MTk A M K V PL → K t = x ∨ K t = y → fX12_expression_b145 (fX12_expression_b12 f) 0 0 (mkM F A B) = fX12_expression_b234 (fX12_expression_b12 f) 0 0 1 0 (nI z) (mkM F A B)) (hS : SpOK n0 M hh U) (hU : MIm cb M K V PL B l U n0) : MIm cb M K V PL B (l + 1) (pJ K x y U) n0 := by
  have hM := hK.1
  intro n t c W F A f fu hn0 hn ht hs hw hW hf hfu
  have hW0 : HW l W := fun q => by
    have := hW (by omega)
    have l1 : l = 1 := by omega
    rw [l1] at this ⊢
    unfold Stop at *
    cases W with
    | nil => exact ⟨rfl, rfl⟩
    | cons k W =>
      by_cases ck : pop1 0 k = true
      · have h1 := this.1
        rw [cT, if_pos ck] at h1
        cases h1
      · have : pop1 1 k = false := by
          unfold pop1 at ck ⊢
          by_cases k6 : k = 6
          · rw [decide_eq_true k6]; rfl
          · rw [decide_eq_false k6] at ck
            exact absurd rfl ck
        exact Stop.cons this
  obtain ⟨u1, u2⟩ := hU n t c W F A f fu hn0 hn ht hs (by omega) hW0 hf hfu
  obtain ⟨⟨s1, s2, s3⟩, s4⟩ := hS n t hn0 hn ht
  unfold pJ
  by_cases cU : (U n t).1 = 0
  · rw [if_pos cU]
    obtain ⟨F2, A2, f2, fu2, P2, L2, v1, v2, v3, v4, v5, v6, v7, v8⟩ := u2 cU
    obtain ⟨i1, i2⟩ := m_loop hcb hK hl hz hsg hst hn0 hn hS hU 401 (U n t).2.1 c W F2 A2 f2 fu2 P2 L2 (U n t).2.2 s2 (by omega) v2 hw hW v3 v4 ⟨by have := v5.1; omega, by
      by_cases l0 : l = 0
      · have p0 : P2 = [] := List.eq_nil_of_length_eq_zero (by have := v5.1; omega)
        rw [p0]
        exact fun k hk => absurd hk List.not_mem_nil
      · have l1 : l = 1 := by omega
        rw [l1]
        exact v5.2.zero⟩ v7 v8
    refine ⟨fun q => ?_, fun q => ?_⟩
    · obtain ⟨F3, A3, j1, j2, j3⟩ := i1 q
      exact ⟨F3, A3, by rw [v1, j1], j2, v6.tr j3 (Nat.le_refl _)⟩
    · obtain ⟨F3, A3, f3, fu3, P3, L3, j1, j2, j3, j4, j5, j6, j7⟩ := i2 q
      exact ⟨F3, A3, f3, fu3, P3, L3, by rw [v1, j1], j2, j3, j4, j5, v6.tr j6 (Nat.le_refl _), j7⟩
  · rw [if_neg cU]
    exact ⟨u1, fun q => absurd q cU⟩
end MX79
