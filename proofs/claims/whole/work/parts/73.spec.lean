/-! ===== what a term of tokens is ===== -/
abbrev Rs : Type := Nat × Nat × List Op
def tkk (K : Nat → Nat) (k t : Nat) : Nat × Nat := if K t = k then (if t < 400 then (0, t + 1) else (2, t)) else (1, t)
def sgo (k : Nat) : Nat := if k = 43 then 2 else if k = 45 then 3 else if k = 42 then 4 else 5
def pU (K V : Nat → Nat) (E : Nat → Nat → Rs) (n t : Nat) : Rs := if K t = 17 then ((tkk K 17 t).1, (tkk K 17 t).2, [(0, V t)]) else if 11 ≤ K t ∧ K t ≤ 15 then ((tkk K (K t) t).1, (tkk K (K t) t).2, [(1, K t - 11)]) else if K t = 40 then (if n = 6 then (2, t, []) else if t < 400 then (if (E (n + 1) (t + 1)).1 = 0 then ((tkk K 41 (E (n + 1) (t + 1)).2.1).1, (tkk K 41 (E (n + 1) (t + 1)).2.1).2, (E (n + 1) (t + 1)).2.2) else E (n + 1) (t + 1)) else (2, t, [])) else (1, t, [])
/-- signs x or y and what they join -/
def pL (K : Nat → Nat) (x y : Nat) (U : Nat → Nat → Rs) : Nat → Nat → Nat → List Op → Rs
  | 0, _, t, L => (0, t, L)
  | m + 1, n, t, L => if K t = x ∨ K t = y then (if t < 400 then (if (U n (t + 1)).1 = 0 then pL K x y U m n (U n (t + 1)).2.1 (L ++ (U n (t + 1)).2.2 ++ [(sgo (K t), 0)]) else U n (t + 1)) else (2, t, L)) else (0, t, L)
def pJ (K : Nat → Nat) (x y : Nat) (U : Nat → Nat → Rs) (n t : Nat) : Rs := if (U n t).1 = 0 then pL K x y U 401 n (U n t).2.1 (U n t).2.2 else U n t
def pD (K V : Nat → Nat) : Nat → Nat → Nat → Rs
  | 0, _, t => (1, t, [])
  | d + 1, n, t => pJ K 43 45 (pJ K 42 47 (pU K V (pD K V d))) n t
/-- the tokens that the parsers look at -/
def TkR (Ac : Nat → Nat → Int32) (Bc : Nat → Nat → Int64) (A : Nat → Nat → Int32) (B : Nat → Nat → Int64) (M : Nat) (K V : Nat → Nat) (NM : Nat → List Nat) (PL : Nat → Nat) : Prop := M ≤ 400 ∧ (∀ j, j ≤ M → (Ac 4 j = nI (K j) ∧ Ac 5 j = nI (PL j)) ∧ (A 3 j = nI (mkk (K j)) ∧ A 4 j = nI (PL j)) ∧ vk (K j) = true ∧ PL j ≤ 2000 ∧ (K j = 17 → Bc 6 j = jN (V j) ∧ A 5 j = nI (V j) ∧ V j ≤ 9999) ∧ (K j = 16 → Bc 6 j = jN (cN 32 (NM j)) ∧ B 6 j = jN (cN 27 (NM j)) ∧ Nam (NM j))) ∧ (M < 400 → K M = 18) ∧ (∀ j, j < M → ¬ K j = 18) ∧ ∀ j, j < M → PL j < PL (j + 1)
def TkK (M : Nat) (K V : Nat → Nat) : Prop := M ≤ 400 ∧ (∀ j, j ≤ M → vk (K j) = true ∧ (K j = 17 → V j ≤ 9999)) ∧ (M < 400 → K M = 18) ∧ ∀ j, j < M → ¬ K j = 18
theorem TkR.tk {Ac : Nat → Nat → Int32} {Bc : Nat → Nat → Int64} {A : Nat → Nat → Int32} {B : Nat → Nat → Int64} {M : Nat} {K V : Nat → Nat} {NM : Nat → List Nat} {PL : Nat → Nat} (h : TkR Ac Bc A B M K V NM PL) : TkK M K V := ⟨h.1, fun j hj => ⟨(h.2.1 j hj).2.2.1, fun q => ((h.2.1 j hj).2.2.2.2.1 q).2.2⟩, h.2.2.1, h.2.2.2.1⟩
theorem TkK.on {M : Nat} {K V : Nat → Nat} (h : TkK M K V) {t : Nat} (ht : t ≤ M) (hk : ¬ K t = 18) (h4 : t < 400) : t + 1 ≤ M := by
  by_cases c : t = M
  · subst c
    exact absurd (h.2.2.1 h4) hk
  · omega
/-- what holds of a spec: it stays within the tokens, its row is a term, no longer than the tokens it took -/
def SpOK (n0 M : Nat) (hh : Nat → Nat) (S : Nat → Nat → Rs) : Prop := ∀ n t, n0 ≤ n → n ≤ 6 → t ≤ M → (t ≤ (S n t).2.1 ∧ (S n t).2.1 ≤ M ∧ (S n t).1 ≤ 2) ∧ ((S n t).1 = 0 → t + (S n t).2.2.length ≤ (S n t).2.1 ∧ t < (S n t).2.1 ∧ GoodL (hh n) (S n t).2.2)
theorem GoodL.mono {h h' : Nat} {L : List Op} (q : GoodL h L) (hh : h ≤ h') : GoodL h' L := ⟨q.1, fun s lim z => q.2 s lim (by omega)⟩
theorem GoodL.one {o : Op} (h1 : o.1 < 2) (h2 : OkO o) : GoodL 1 [o] := ⟨fun x hx => by rw [List.mem_singleton.1 hx]; exact h2, fun s lim hs => ⟨fun _ => ⟨hs, rfl⟩, fun q => absurd h1 q⟩⟩
theorem GoodL.bin {h1 h2 : Nat} {a b : List Op} {k : Nat} (ha : GoodL h1 a) (hb : GoodL h2 b) (hk : 2 ≤ k ∧ k ≤ 5) : GoodL (max h1 (1 + h2)) (a ++ b ++ [(k, 0)]) := by
  refine ⟨fun x hx => ?_, fun s lim hs => ?_⟩
  · rw [List.mem_append, List.mem_append] at hx
    rcases hx with (hx | hx) | hx
    · exact ha.1 x hx
    · exact hb.1 x hx
    · rw [List.mem_singleton.1 hx]
      exact ⟨hk.2, fun q => absurd q (by show ¬ k = 0; omega), fun q => absurd q (by show ¬ k = 1; omega)⟩
  · have f1 := ha.2 s lim (by omega)
    have f2 := hb.2 (s + 1) lim (by omega)
    refine FitsTo.app _ (FitsTo.app _ f1 f2) ⟨fun q => absurd q (by show ¬ k < 2; omega), fun _ => ⟨by omega, ?_⟩⟩
    show s + 1 + 1 - 1 = s + 1
    omega
theorem tkk_ok {M : Nat} {K V : Nat → Nat} (h : TkK M K V) {k t : Nat} (hk : ¬ k = 18) (ht : t ≤ M) : (t ≤ (tkk K k t).2 ∧ (tkk K k t).2 ≤ M ∧ (tkk K k t).1 ≤ 2) ∧ ((tkk K k t).1 = 0 → (tkk K k t).2 = t + 1 ∧ K t = k ∧ t < 400) := by
  unfold tkk
  by_cases c : K t = k
  · rw [if_pos c]
    by_cases c4 : t < 400
    · rw [if_pos c4]
      have := h.on ht (by omega) c4
      exact ⟨⟨by dsimp only; omega, by dsimp only; omega, Nat.le_of_ble_eq_true rfl⟩, fun _ => ⟨rfl, c, c4⟩⟩
    · rw [if_neg c4]
      exact ⟨⟨Nat.le_refl _, ht, Nat.le_of_ble_eq_true rfl⟩, fun q => (by cases q)⟩
  · rw [if_neg c]
    exact ⟨⟨Nat.le_refl _, ht, Nat.le_of_ble_eq_true rfl⟩, fun q => (by cases q)⟩
theorem pU_ok {n0 M : Nat} {K V : Nat → Nat} (h : TkK M K V) {hh : Nat → Nat} {E : Nat → Nat → Rs} (hE : SpOK (n0 + 1) M hh E) : SpOK n0 M (fun n => max 1 (if n = 6 then 1 else hh (n + 1))) (pU K V E) := by
  intro n t hn0 hn ht
  obtain ⟨v1, v2⟩ := h.2.1 t ht
  unfold pU
  by_cases c17 : K t = 17
  · rw [if_pos c17]
    obtain ⟨q1, q2⟩ := tkk_ok h (k := 17) (by decide) ht
    refine ⟨q1, fun z => ?_⟩
    obtain ⟨z1, _, _⟩ := q2 z
    dsimp only
    rw [z1]
    exact ⟨Nat.le_refl _, by omega, (GoodL.one (show (0 : Nat) < 2 by decide) ⟨Nat.le_of_ble_eq_true rfl, fun _ => v2 c17, fun q => (by cases q)⟩).mono (by omega)⟩
  rw [if_neg c17]
  by_cases cv : 11 ≤ K t ∧ K t ≤ 15
  · rw [if_pos cv]
    obtain ⟨q1, q2⟩ := tkk_ok h (k := K t) (by omega) ht
    refine ⟨q1, fun z => ?_⟩
    obtain ⟨z1, _, _⟩ := q2 z
    dsimp only
    rw [z1]
    exact ⟨Nat.le_refl _, by omega, (GoodL.one (show (1 : Nat) < 2 by decide) ⟨Nat.le_of_ble_eq_true rfl, fun q => (by cases q), fun _ => by show K t - 11 ≤ 4; omega⟩).mono (by omega)⟩
  rw [if_neg cv]
  by_cases c40 : K t = 40
  · rw [if_pos c40]
    by_cases c6 : n = 6
    · rw [if_pos c6]
      exact ⟨⟨Nat.le_refl _, ht, Nat.le_of_ble_eq_true rfl⟩, fun q => (by cases q)⟩
    rw [if_neg c6]
    by_cases c4 : t < 400
    · rw [if_pos c4]
      have t1 := h.on ht (by omega) c4
      obtain ⟨⟨e1, e2, e3⟩, e4⟩ := hE (n + 1) (t + 1) (by omega) (by omega) t1
      by_cases cE : (E (n + 1) (t + 1)).1 = 0
      · rw [if_pos cE]
        obtain ⟨⟨q1, q2, q3⟩, q4⟩ := tkk_ok h (k := 41) (by decide) e2
        obtain ⟨e5, e6, e7⟩ := e4 cE
        refine ⟨⟨by dsimp only; omega, q2, q3⟩, fun z => ?_⟩
        obtain ⟨z1, _, _⟩ := q4 z
        dsimp only
        rw [z1]
        exact ⟨by omega, by omega, e7.mono (by rw [if_neg c6]; omega)⟩
      · rw [if_neg cE]
        exact ⟨⟨by omega, e2, e3⟩, fun q => absurd q cE⟩
    · rw [if_neg c4]
      exact ⟨⟨Nat.le_refl _, ht, Nat.le_of_ble_eq_true rfl⟩, fun q => (by cases q)⟩
  · rw [if_neg c40]
    exact ⟨⟨Nat.le_refl _, ht, Nat.le_of_ble_eq_true rfl⟩, fun q => (by cases q)⟩
theorem sgo_b (k : Nat) : 2 ≤ sgo k ∧ sgo k ≤ 5 := by
  unfold sgo
  split
  · omega
  · split
    · omega
    · split <;> omega
theorem pL_ok {n0 M : Nat} {K V : Nat → Nat} (h : TkK M K V) {hh : Nat → Nat} {U : Nat → Nat → Rs} (hU : SpOK n0 M hh U) {x y : Nat} (hx : ¬ x = 18) (hy : ¬ y = 18) {n : Nat} (hn0 : n0 ≤ n) (hn : n ≤ 6) : ∀ m t L t0, t ≤ M → t0 + L.length ≤ t → t0 < t → GoodL (hh n + 1) L → 401 ≤ t + m → (t ≤ (pL K x y U m n t L).2.1 ∧ (pL K x y U m n t L).2.1 ≤ M ∧ (pL K x y U m n t L).1 ≤ 2) ∧ ((pL K x y U m n t L).1 = 0 → t0 + (pL K x y U m n t L).2.2.length ≤ (pL K x y U m n t L).2.1 ∧ t0 < (pL K x y U m n t L).2.1 ∧ GoodL (hh n + 1) (pL K x y U m n t L).2.2) := by
  intro m
  induction m with
  | zero =>
    intro t L t0 ht h1 h2 h3 h4
    have := h.1
    omega
  | succ m ih =>
    intro t L t0 ht h1 h2 h3 h4
    rw [pL]
    by_cases c : K t = x ∨ K t = y
    · rw [if_pos c]
      by_cases c4 : t < 400
      · rw [if_pos c4]
        have t1 := h.on ht (by omega) c4
        obtain ⟨⟨e1, e2, e3⟩, e4⟩ := hU n (t + 1) hn0 hn t1
        by_cases cE : (U n (t + 1)).1 = 0
        · rw [if_pos cE]
          obtain ⟨e5, e6, e7⟩ := e4 cE
          have g := GoodL.bin h3 e7 (sgo_b (K t))
          obtain ⟨⟨i1, i2, i3⟩, i4⟩ := ih (U n (t + 1)).2.1 (L ++ (U n (t + 1)).2.2 ++ [(sgo (K t), 0)]) t0 e2 (by rw [List.length_append, List.length_append, List.length_singleton]; omega) (by omega) (g.mono (by omega)) (by omega)
          exact ⟨⟨by omega, i2, i3⟩, i4⟩
        · rw [if_neg cE]
          exact ⟨⟨by omega, e2, e3⟩, fun q => absurd q cE⟩
      · rw [if_neg c4]
        exact ⟨⟨Nat.le_refl _, ht, Nat.le_of_ble_eq_true rfl⟩, fun q => (by cases q)⟩
    · rw [if_neg c]
      exact ⟨⟨Nat.le_refl _, ht, Nat.le_of_ble_eq_true rfl⟩, fun _ => ⟨h1, h2, h3⟩⟩
theorem pJ_ok {n0 M : Nat} {K V : Nat → Nat} (h : TkK M K V) {hh : Nat → Nat} {U : Nat → Nat → Rs} (hU : SpOK n0 M hh U) {x y : Nat} (hx : ¬ x = 18) (hy : ¬ y = 18) : SpOK n0 M (fun n => hh n + 1) (pJ K x y U) := by
  intro n t hn0 hn ht
  obtain ⟨⟨e1, e2, e3⟩, e4⟩ := hU n t hn0 hn ht
  unfold pJ
  by_cases c : (U n t).1 = 0
  · rw [if_pos c]
    obtain ⟨e5, e6, e7⟩ := e4 c
    obtain ⟨⟨i1, i2, i3⟩, i4⟩ := pL_ok h hU hx hy hn0 hn 401 (U n t).2.1 (U n t).2.2 t e2 e5 e6 (e7.mono (by omega)) (by omega)
    exact ⟨⟨by omega, i2, i3⟩, i4⟩
  · rw [if_neg c]
    exact ⟨⟨e1, e2, e3⟩, fun q => absurd q c⟩
theorem pD_eq (K V : Nat → Nat) (d : Nat) : pD K V (d + 1) = pJ K 43 45 (pJ K 42 47 (pU K V (pD K V d))) := by
  funext n t
  rw [pD]
theorem SpOK.mono {n0 M : Nat} {hh hh' : Nat → Nat} {S : Nat → Nat → Rs} (h : SpOK n0 M hh S) (e : ∀ n, n0 ≤ n → n ≤ 6 → hh n ≤ hh' n) : SpOK n0 M hh' S := fun n t h1 h2 h3 => ⟨(h n t h1 h2 h3).1, fun q => ⟨((h n t h1 h2 h3).2 q).1, ((h n t h1 h2 h3).2 q).2.1, ((h n t h1 h2 h3).2 q).2.2.mono (e n h1 h2)⟩⟩
theorem pD_ok {M : Nat} {K V : Nat → Nat} (h : TkK M K V) : ∀ d n0, 8 ≤ d + n0 → SpOK n0 M (fun n => 15 - 2 * n) (pD K V d)
  | 0, n0, hd => fun n t h1 h2 h3 => by omega
  | d + 1, n0, hd => by
    rw [pD_eq]
    refine (pJ_ok h (pJ_ok h (pU_ok h (pD_ok h d (n0 + 1) (by omega))) (by decide) (by decide)) (by decide) (by decide)).mono (fun n h1 h2 => ?_)
    by_cases c : n = 6
    · rw [if_pos c]; omega
    · rw [if_neg c]; omega
