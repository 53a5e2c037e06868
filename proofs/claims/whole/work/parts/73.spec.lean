/-! ===== what a term of tokens is ===== -/
abbrev Rs : Type := Nat × Nat × List Op
def tkk (K : Nat → Nat) (k t : Nat) : Nat × Nat := if K t = k then (if t < 400 then (0, t + 1) else (2, t)) else (1, t)
def sgo (k : Nat) : Nat := if k = 43 then 2 else if k = 45 then 3 else if k = 42 then 4 else 5
def pU (K V : Nat → Nat) (E : Nat → Nat → Rs) (n t : Nat) : Rs := if K t = 17 then ((tkk K 17 t).1, (tkk K 17 t).2, [(0, V t)]) else if 11 ≤ K t ∧ K t ≤ 15 then ((tkk K (K t) t).1, (tkk K (K t) t).2, [(1, K t - 11)]) else if K t = 40 then (if n = 6 then (2, t, []) else if t < 400 then (if (E (n + 1) (t + 1)).1 = 0 then ((tkk K 41 (E (n + 1) (t + 1)).2.1).1, (tkk K 41 (E (n + 1) (t + 1)).2.1).2, (E (n + 1) (t + 1)).2.2) else E (n + 1) (t + 1)) else (2, t, [])) else (1, t, [])
/-- signs x or y and what they join -/
def pL (K : Nat → Nat) (x y : Nat) (U : Nat → Nat → Rs) : Nat → Nat → Nat → List Op → Rs
  | 0, _, t, L => (0, t, L)
  | m + 1, n, t, L => if K t = x ∨ K t = y then (if t < 400 then (if (U n (t + 1)).1 = 0 then pL K x y U m n (U n (t + 1)).2.1 (L ++ (U n (t + 1)).2.2 ++ [(sgo (K t), 0)]) else U n (t + 1)) else (2, t, L)) else (0, t, L)
def pJ (K : Nat → Nat) (x y : Nat) (U : Nat → Nat → Rs) (n t : Nat) : Rs := if (U n t).1 = 0 then pL K x y U 401 n (U n t).2.1 (U n t).2.2 else U n t
def pD (K V : Nat → Nat) : Nat → Nat → Nat → Rs
  | 0, _, t => (1, t, [])
  | d + 1, n, t => pJ K 43 45 (pJ K 42 47 (pU K V (pD K V d))) n t
/-- the tokens that the parsers look at -/
def TkR (Ac : Nat → Nat → Int32) (Bc : Nat → Nat → Int64) (A : Nat → Nat → Int32) (B : Nat → Nat → Int64) (M : Nat) (K V : Nat → Nat) (NM : Nat → List Nat) (PL : Nat → Nat) : Prop := M ≤ 400 ∧ (∀ j, j ≤ M → (Ac 4 j = nI (K j) ∧ Ac 5 j = nI (PL j)) ∧ (A 3 j = nI (mkk (K j)) ∧ A 4 j = nI (PL j)) ∧ vk (K j) = true ∧ PL j ≤ 2000 ∧ (K j = 17 → Bc 6 j = jN (V j) ∧ A 5 j = nI (V j) ∧ V j ≤ 9999) ∧ (K j = 16 → Bc 6 j = jN (cN 32 (NM j)) ∧ B 6 j = jN (cN 27 (NM j)) ∧ Nam (NM j))) ∧ (M < 400 → K M = 18) ∧ (∀ j, j < M → ¬ K j = 18) ∧ ∀ j, j < M → PL j < PL (j + 1)
def TkK (M : Nat) (K V : Nat → Nat) : Prop := M ≤ 400 ∧ (∀ j, j ≤ M → vk (K j) = true ∧ (K j = 17 → V j ≤ 9999)) ∧ (M < 400 → K M = 18) ∧ ∀ j, j < M → ¬ K j = 18
theorem TkR.tk {Ac : Nat → Nat → Int32} {Bc : Nat → Nat → Int64} {A : Nat → Nat → Int32} {B : Nat → Nat → Int64} {M : Nat} {K V : Nat → Nat} {NM : Nat → List Nat} {PL : Nat → Nat} (h : TkR Ac Bc A B M K V NM PL) : TkK M K V := ⟨h.1, fun j hj => ⟨(h.2.1 j hj).2.2.1, fun q => ((h.2.1 j hj).2.2.2.2.1 q).2.2⟩, h.2.2.1, h.2.2.2.1⟩
theorem TkK.on {M : Nat} {K V : Nat → Nat} (h : TkK M K V) {t : Nat} (ht : t ≤ M) (hk : ¬ K t = 18) (h4 : t < 400) : t + 1 ≤ M := by
  by_cases c : t = M
  · subst c
    exact absurd (h.2.2.1 h4) hk
  · omega
/-- what holds of a spec: it stays within the tokens, its row is a term, no longer than the tokens it took -/
def SpOK (M : Nat) (hh : Nat → Nat) (S : Nat → Nat → Rs) : Prop := ∀ n t, n ≤ 6 → t ≤ M → (t ≤ (S n t).2.1 ∧ (S n t).2.1 ≤ M ∧ (S n t).1 ≤ 2) ∧ ((S n t).1 = 0 → t + (S n t).2.2.length ≤ (S n t).2.1 ∧ t < (S n t).2.1 ∧ GoodL (hh n) (S n t).2.2)
theorem GoodL.mono {h h' : Nat} {L : List Op} (q : GoodL h L) (hh : h ≤ h') : GoodL h' L := ⟨q.1, fun s lim z => q.2 s lim (by omega)⟩
theorem GoodL.one {o : Op} (h1 : o.1 < 2) (h2 : OkO o) : GoodL 1 [o] := ⟨fun x hx => by rw [List.mem_singleton.1 hx]; exact h2, fun s lim hs => ⟨fun _ => ⟨hs, rfl⟩, fun q => absurd h1 q⟩⟩
theorem GoodL.bin {h1 h2 : Nat} {a b : List Op} {k : Nat} (ha : GoodL h1 a) (hb : GoodL h2 b) (hk : 2 ≤ k ∧ k ≤ 5) : GoodL (max h1 (1 + h2)) (a ++ b ++ [(k, 0)]) := by
  refine ⟨fun x hx => ?_, fun s lim hs => ?_⟩
  · rw [List.mem_append, List.mem_append] at hx
    rcases hx with (hx | hx) | hx
    · exact ha.1 x hx
    · exact hb.1 x hx
    · rw [List.mem_singleton.1 hx]
      exact ⟨hk.2, fun q => absurd q (by show ¬ k = 0; omega), fun q => absurd q (by show ¬ k = 1; omega)⟩
  · have f1 := ha.2 s lim (by omega)
    have f2 := hb.2 (s + 1) lim (by omega)
    refine FitsTo.app _ (FitsTo.app _ f1 f2) ⟨fun q => absurd q (by show ¬ k < 2; omega), fun _ => ⟨by omega, ?_⟩⟩
    show s + 1 + 1 - 1 = s + 1
    omega
theorem tkk_ok {M : Nat} {K V : Nat → Nat} (h : TkK M K V) {k t : Nat} (hk : ¬ k = 18) (ht : t ≤ M) : (t ≤ (tkk K k t).2 ∧ (tkk K k t).2 ≤ M ∧ (tkk K k t).1 ≤ 2) ∧ ((tkk K k t).1 = 0 → (tkk K k t).2 = t + 1 ∧ K t = k ∧ t < 400) := by
  unfold tkk
  by_cases c : K t = k
  · rw [if_pos c]
    by_cases c4 : t < 400
    · rw [if_pos c4]
      have := h.on ht (by omega) c4
      exact ⟨⟨by dsimp only; omega, by dsimp only; omega, Nat.le_of_ble_eq_true rfl⟩, fun _ => ⟨rfl, c, c4⟩⟩
    · rw [if_neg c4]
      exact ⟨⟨Nat.le_refl _, ht, Nat.le_of_ble_eq_true rfl⟩, fun q => (by cases q)⟩
  · rw [if_neg c]
    exact ⟨⟨Nat.le_refl _, ht, Nat.le_of_ble_eq_true rfl⟩, fun q => (by cases q)⟩
theorem pU_ok {M : Nat} {K V : Nat → Nat} (h : TkK M K V) {hh : Nat → Nat} {E : Nat → Nat → Rs} (hE : ∀ n t, n ≤ 6 → t ≤ M → 0 < n → (t ≤ (E n t).2.1 ∧ (E n t).2.1 ≤ M ∧ (E n t).1 ≤ 2) ∧ ((E n t).1 = 0 → t + (E n t).2.2.length ≤ (E n t).2.1 ∧ t < (E n t).2.1 ∧ GoodL (hh n) (E n t).2.2)) : SpOK M (fun n => max 1 (if n = 6 then 1 else hh (n + 1))) (pU K V E) := by
  intro n t hn ht
  obtain ⟨v1, v2⟩ := h.2.1 t ht
  unfold pU
  by_cases c17 : K t = 17
  · rw [if_pos c17]
    obtain ⟨q1, q2⟩ := tkk_ok h (k := 17) (by decide) ht
    refine ⟨q1, fun z => ?_⟩
    obtain ⟨z1, _, _⟩ := q2 z
    dsimp only
    rw [z1]
    exact ⟨Nat.le_refl _, by omega, (GoodL.one (show (0 : Nat) < 2 by decide) ⟨Nat.le_of_ble_eq_true rfl, fun _ => v2 c17, fun q => (by cases q)⟩).mono (by omega)⟩
  rw [if_neg c17]
  by_cases cv : 11 ≤ K t ∧ K t ≤ 15
  · rw [if_pos cv]
    obtain ⟨q1, q2⟩ := tkk_ok h (k := K t) (by omega) ht
    refine ⟨q1, fun z => ?_⟩
    obtain ⟨z1, _, _⟩ := q2 z
    dsimp only
    rw [z1]
    exact ⟨Nat.le_refl _, by omega, (GoodL.one (show (1 : Nat) < 2 by decide) ⟨Nat.le_of_ble_eq_true rfl, fun q => (by cases q), fun _ => by show K t - 11 ≤ 4; omega⟩).mono (by omega)⟩
  rw [if_neg cv]
  by_cases c40 : K t = 40
  · rw [if_pos c40]
    by_cases c6 : n = 6
    · rw [if_pos c6]
      exact ⟨⟨Nat.le_refl _, ht, Nat.le_of_ble_eq_true rfl⟩, fun q => (by cases q)⟩
    rw [if_neg c6]
    by_cases c4 : t < 400
    · rw [if_pos c4]
      have t1 := h.on ht (by omega) c4
      obtain ⟨⟨e1, e2, e3⟩, e4⟩ := hE (n + 1) (t + 1) (by omega) t1 (by omega)
      by_cases cE : (E (n + 1) (t + 1)).1 = 0
      · rw [if_pos cE]
        obtain ⟨⟨q1, q2, q3⟩, q4⟩ := tkk_ok h (k := 41) (by decide) e2
        obtain ⟨e5, e6, e7⟩ := e4 cE
        refine ⟨⟨by dsimp only; omega, q2, q3⟩, fun z => ?_⟩
        obtain ⟨z1, _, _⟩ := q4 z
        dsimp only
        rw [z1]
        exact ⟨by omega, by omega, e7.mono (by rw [if_neg c6]; omega)⟩
      · rw [if_neg cE]
        exact ⟨⟨by omega, e2, e3⟩, fun q => absurd q cE⟩
    · rw [if_neg c4]
      exact ⟨⟨Nat.le_refl _, ht, Nat.le_of_ble_eq_true rfl⟩, fun q => (by cases q)⟩
  · rw [if_neg c40]
    exact ⟨⟨Nat.le_refl _, ht, Nat.le_of_ble_eq_true rfl⟩, fun q => (by cases q)⟩
theorem sgo_b (k : Nat) : 2 ≤ sgo k ∧ sgo k ≤ 5 := by
  unfold sgo
  split
  · omega
  · split
    · omega
    · split <;> omega
theorem pL_ok {M : Nat} {K V : Nat → Nat} (h : TkK M K V) {hh : Nat → Nat} {U : Nat → Nat → Rs} (hU : SpOK M hh U) {x y : Nat} (hx : ¬ x = 18) (hy : ¬ y = 18) {n : Nat} (hn : n ≤ 6) : ∀ m t L t0, t ≤ M → t0 + L.length ≤ t → t0 < t → GoodL (hh n + 1) L → 401 ≤ t + m → (t ≤ (pL K x y U m n t L).2.1 ∧ (pL K x y U m n t L).2.1 ≤ M ∧ (pL K x y U m n t L).1 ≤ 2) ∧ ((pL K x y U m n t L).1 = 0 → t0 + (pL K x y U m n t L).2.2.length ≤ (pL K x y U m n t L).2.1 ∧ t0 < (pL K x y U m n t L).2.1 ∧ GoodL (hh n + 1) (pL K x y U m n t L).2.2) := by
  intro m
  induction m with
  | zero =>
    intro t L t0 ht h1 h2 h3 h4
    have := h.1
    omega
  | succ m ih =>
    intro t L t0 ht h1 h2 h3 h4
    rw [pL]
    by_cases c : K t = x ∨ K t = y
    · rw [if_pos c]
      by_cases c4 : t < 400
      · rw [if_pos c4]
        have t1 := h.on ht (by omega) c4
        obtain ⟨⟨e1, e2, e3⟩, e4⟩ := hU n (t + 1) hn t1
        by_cases cE : (U n (t + 1)).1 = 0
        · rw [if_pos cE]
          obtain ⟨e5, e6, e7⟩ := e4 cE
          have g := GoodL.bin h3 e7 (sgo_b (K t))
          obtain ⟨⟨i1, i2, i3⟩, i4⟩ := ih (U n (t + 1)).2.1 (L ++ (U n (t + 1)).2.2 ++ [(sgo (K t), 0)]) t0 e2 (by rw [List.length_append, List.length_append, List.length_singleton]; omega) (by omega) (g.mono (by omega)) (by omega)
          exact ⟨⟨by omega, i2, i3⟩, i4⟩
        · rw [if_neg cE]
          exact ⟨⟨by omega, e2, e3⟩, fun q => absurd q cE⟩
      · rw [if_neg c4]
        exact ⟨⟨Nat.le_refl _, ht, Nat.le_of_ble_eq_true rfl⟩, fun q => (by cases q)⟩
    · rw [if_neg c]
      exact ⟨⟨Nat.le_refl _, ht, Nat.le_of_ble_eq_true rfl⟩, fun _ => ⟨h1, h2, h3⟩⟩
theorem pJ_ok {M : Nat} {K V : Nat → Nat} (h : TkK M K V) {hh : Nat → Nat} {U : Nat → Nat → Rs} (hU : SpOK M hh U) {x y : Nat} (hx : ¬ x = 18) (hy : ¬ y = 18) : SpOK M (fun n => hh n + 1) (pJ K x y U) := by
  intro n t hn ht
  obtain ⟨⟨e1, e2, e3⟩, e4⟩ := hU n t hn ht
  unfold pJ
  by_cases c : (U n t).1 = 0
  · rw [if_pos c]
    obtain ⟨e5, e6, e7⟩ := e4 c
    obtain ⟨⟨i1, i2, i3⟩, i4⟩ := pL_ok h hU hx hy hn 401 (U n t).2.1 (U n t).2.2 t e2 e5 e6 (e7.mono (by omega)) (by omega)
    exact ⟨⟨by omega, i2, i3⟩, i4⟩
  · rw [if_neg c]
    exact ⟨⟨e1, e2, e3⟩, fun q => absurd q c⟩
theorem pD_ok {M : Nat} {K V : Nat → Nat} (h : TkK M K V) : ∀ d n t, n ≤ 6 → t ≤ M → 8 ≤ d + n → (t ≤ (pD K V d n t).2.1 ∧ (pD K V d n t).2.1 ≤ M ∧ (pD K V d n t).1 ≤ 2) ∧ ((pD K V d n t).1 = 0 → t + (pD K V d n t).2.2.length ≤ (pD K V d n t).2.1 ∧ t < (pD K V d n t).2.1 ∧ GoodL (15 - 2 * n) (pD K V d n t).2.2)
  | 0, n, t, hn, ht, hd => by omega
  | d + 1, n, t, hn, ht, hd => by
    -- below n nothing is asked
    have key : SpOK M (fun k => max 1 (if k = 6 then 1 else if n ≤ k then 15 - 2 * (k + 1) else 15)) (fun k t => if n ≤ k then pU K V (pD K V d) k t else (1, t, [])) := by
      intro k t' hk ht'
      dsimp only
      by_cases c : n ≤ k
      · rw [if_pos c]
        have hp := pU_ok h (hh := fun j => 15 - 2 * j) (E := fun j t => if n < j then pD K V d j t else (1, t, [])) (fun j t hj ht hj0 => by
          by_cases cj : n < j
          · rw [if_pos cj]
            exact pD_ok h d j t hj ht (by omega)
          · rw [if_neg cj]
            exact ⟨⟨Nat.le_refl _, ht, Nat.le_of_ble_eq_true rfl⟩, fun q => (by cases q)⟩) k t' hk ht'
        have e : pU K V (fun j t => if n < j then pD K V d j t else (1, t, [])) k t' = pU K V (pD K V d) k t' := by
          unfold pU
          simp only [if_pos (show n < k + 1 by omega)]
        rw [e] at hp
        refine ⟨hp.1, fun z => ?_⟩
        obtain ⟨z1, z2, z3⟩ := hp.2 z
        refine ⟨z1, z2, z3.mono ?_⟩
        dsimp only
        by_cases c6 : k = 6
        · rw [if_pos c6, if_pos c6]; omega
        · rw [if_neg c6, if_neg c6]; split <;> omega
      · rw [if_neg c]
        exact ⟨⟨Nat.le_refl _, ht', Nat.le_of_ble_eq_true rfl⟩, fun q => (by cases q)⟩
    have hJ := pJ_ok h (pJ_ok h key (x := 42) (y := 47) (by decide) (by decide)) (x := 43) (y := 45) (by decide) (by decide) n t hn ht
    have e1 : ∀ (X Y : Nat → Nat → Rs) x y k, (∀ t, X k t = Y k t) → ∀ t, pJ K x y X k t = pJ K x y Y k t := by
      intro X Y x y k hXY t
      have el : ∀ m t L, pL K x y X m k t L = pL K x y Y m k t L := by
        intro m
        induction m with
        | zero => intro t L; rfl
        | succ m ih => intro t L; rw [pL, pL, hXY, ih]
      unfold pJ
      rw [hXY, el]
    have e2 : pJ K 43 45 (pJ K 42 47 (fun k t => if n ≤ k then pU K V (pD K V d) k t else (1, t, []))) n t = pD K V (d + 1) n t := by
      rw [pD]
      exact e1 _ _ 43 45 n (fun t => e1 _ _ 42 47 n (fun t => by rw [if_pos (Nat.le_refl n)]) t) t
    rw [e2] at hJ
    refine ⟨hJ.1, fun z => ?_⟩
    obtain ⟨z1, z2, z3⟩ := hJ.2 z
    refine ⟨z1, z2, z3.mono ?_⟩
    dsimp only
    by_cases c6 : n = 6
    · rw [if_pos c6]; omega
    · rw [if_neg c6, if_pos (Nat.le_refl n)]; omega
