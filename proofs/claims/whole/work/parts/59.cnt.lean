/-! ===== counting rows of weights ===== -/
def sumN (f : Nat → Nat) : Nat → Nat
  | 0 => 0
  | n + 1 => sumN f n + f n
theorem sumN_congr {f g : Nat → Nat} : ∀ n, (∀ w, w < n → f w = g w) → sumN f n = sumN g n
  | 0, _ => rfl
  | n + 1, h => by rw [sumN, sumN, sumN_congr n (fun w hw => h w (by omega)), h n (by omega)]
theorem sumN_add (f : Nat → Nat) (a : Nat) : ∀ b, sumN f (a + b) = sumN f a + sumN (fun w => f (a + w)) b
  | 0 => rfl
  | b + 1 => by rw [← Nat.add_assoc, sumN, sumN_add f a b, sumN]; omega
theorem sumN_split (f : Nat → Nat) (c : Nat) : ∀ k, sumN f (k * c) = sumN (fun d => sumN (fun w => f (d * c + w)) c) k
  | 0 => by rw [Nat.zero_mul]; rfl
  | k + 1 => by rw [Nat.add_mul, Nat.one_mul, sumN_add, sumN_split f c k, sumN]
theorem sumN_mul (f : Nat → Nat) (a : Nat) : ∀ n, sumN (fun w => a * f w) n = a * sumN f n
  | 0 => rfl
  | n + 1 => by rw [sumN, sumN, sumN_mul f a n, Nat.mul_add]
theorem sumN_const (a : Nat) : ∀ n, sumN (fun _ => a) n = n * a
  | 0 => by rw [Nat.zero_mul]; rfl
  | n + 1 => by rw [sumN, sumN_const a n, Nat.add_mul, Nat.one_mul]
theorem sumN_pos {p : Nat → Bool} : ∀ n, 0 < sumN (fun w => if p w then 1 else 0) n ↔ ∃ w, w < n ∧ p w = true
  | 0 => ⟨fun h => absurd h (Nat.lt_irrefl 0), fun ⟨w, h, _⟩ => absurd h (by omega)⟩
  | n + 1 => by
    rw [sumN]
    have ih := sumN_pos (p := p) n
    by_cases c : p n = true
    · rw [if_pos c]
      exact ⟨fun _ => ⟨n, by omega, c⟩, fun _ => by omega⟩
    · rw [if_neg c, Nat.add_zero, ih]
      refine ⟨fun ⟨w, h1, h2⟩ => ⟨w, by omega, h2⟩, fun ⟨w, h1, h2⟩ => ⟨w, ?_, h2⟩⟩
      by_cases e : w = n
      · rw [e] at h2; exact absurd h2 c
      · omega
/-- a digit lasts below a higher one -/
theorem dig_low {m d w a b : Nat} (hm : 0 < m) (h : b < a) : (d * m ^ a + w) / m ^ b % m = w / m ^ b % m := by
  have e : d * m ^ a = d * m ^ (a - b - 1) * m * m ^ b := by
    rw [Nat.mul_assoc, Nat.mul_assoc, ← Nat.pow_succ', ← Nat.pow_add]
    congr 2
    omega
  rw [e, Nat.add_comm, Nat.add_mul_div_right _ _ (Nat.pow_pos hm), Nat.add_mul_mod_self_right]
theorem dig_top {m d w a : Nat} (hm : 0 < m) (hd : d < m) (hw : w < m ^ a) : (d * m ^ a + w) / m ^ a % m = d := by
  rw [Nat.add_comm, Nat.add_mul_div_right _ _ (Nat.pow_pos hm), Nat.div_eq_of_lt hw, Nat.zero_add, Nat.mod_eq_of_lt hd]
def updN (r : Nat → Nat) (n d b : Nat) : Nat := if b = n then d else r b
def dgs (m n w b : Nat) : Nat := if b < n then w / m ^ b % m else 0
def rk (Q : Nat → Bool) : Nat → Nat
  | 0 => 0
  | n + 1 => rk Q n + (if Q n then 1 else 0)
def fq (Q : Nat → Bool) : Nat → Nat
  | 0 => 0
  | n + 1 => fq Q n + (if Q n then 0 else 1)
def asg (m : Nat) (Q : Nat → Bool) (n i b : Nat) : Nat := if b < n ∧ Q b = true then i / m ^ rk Q b % m else 0
theorem rk_lt {Q : Nat → Bool} {b : Nat} (hb : Q b = true) : ∀ n, b < n → rk Q b < rk Q n
  | 0, h => absurd h (by omega)
  | n + 1, h => by
    rw [rk]
    by_cases e : b = n
    · subst e; rw [if_pos hb]; omega
    · have := rk_lt hb n (by omega)
      omega
theorem rk_le {Q : Nat → Bool} : ∀ n, rk Q n ≤ n
  | 0 => Nat.le_refl 0
  | n + 1 => by
    have := rk_le (Q := Q) n
    rw [rk]
    split <;> omega
theorem rk_fq {Q : Nat → Bool} : ∀ n, rk Q n + fq Q n = n
  | 0 => rfl
  | n + 1 => by
    have := rk_fq (Q := Q) n
    rw [rk, fq]
    by_cases c : Q n = true
    · rw [if_pos c, if_pos c]; omega
    · rw [if_neg c, if_neg c]; omega
theorem dgs_s {m n d w : Nat} (hm : 0 < m) (hd : d < m) (hw : w < m ^ n) : dgs m (n + 1) (d * m ^ n + w) = updN (dgs m n w) n d := by
  funext b
  unfold dgs updN
  dsimp only
  by_cases c : b = n
  · subst c
    rw [if_pos (by omega), if_pos rfl, dig_top hm hd hw]
  · rw [if_neg c]
    by_cases c2 : b < n
    · rw [if_pos (by omega), if_pos c2, dig_low hm c2]
    · rw [if_neg (by omega), if_neg c2]
theorem asg_s {m n d i : Nat} {Q : Nat → Bool} (hm : 0 < m) (hq : Q n = true) (hd : d < m) (hw : i < m ^ rk Q n) : asg m Q (n + 1) (d * m ^ rk Q n + i) = updN (asg m Q n i) n d := by
  funext b
  unfold asg updN
  dsimp only
  by_cases c : b = n
  · subst c
    rw [if_pos ⟨by omega, hq⟩, if_pos rfl, dig_top hm hd hw]
  · rw [if_neg c]
    by_cases c2 : b < n ∧ Q b = true
    · rw [if_pos ⟨by omega, c2.2⟩, if_pos c2, dig_low hm (rk_lt c2.2 n c2.1)]
    · rw [if_neg (fun q => c2 ⟨by omega, q.2⟩), if_neg c2]
theorem cnt_main {m : Nat} (hm : 0 < m) {Q : Nat → Bool} : ∀ n (Φ : (Nat → Nat) → Nat), (∀ r r', (∀ b, Q b = true ∨ n ≤ b → r b = r' b) → Φ r = Φ r') → sumN (fun w => Φ (dgs m n w)) (m ^ n) = m ^ fq Q n * sumN (fun i => Φ (asg m Q n i)) (m ^ rk Q n)
  | 0, Φ, _ => by
    show 0 + Φ (dgs m 0 0) = 1 * (0 + Φ (asg m Q 0 0))
    have : dgs m 0 0 = asg m Q 0 0 := by
      funext b
      unfold dgs asg
      rw [if_neg (by omega), if_neg (fun q => by omega)]
    rw [this, Nat.one_mul]
  | n + 1, Φ, h => by
    have e1 : m ^ (n + 1) = m * m ^ n := by rw [Nat.pow_succ, Nat.mul_comm]
    have ih : ∀ d, d < m → sumN (fun w => Φ (dgs m (n + 1) (d * m ^ n + w))) (m ^ n) = m ^ fq Q n * sumN (fun i => Φ (updN (asg m Q n i) n d)) (m ^ rk Q n) := fun d hd => by
      rw [sumN_congr (m ^ n) (fun w hw => by rw [dgs_s hm hd hw])]
      exact cnt_main hm n (fun r => Φ (updN r n d)) (fun r r' hr => h _ _ (fun b hb => by
        unfold updN
        by_cases c : b = n
        · rw [if_pos c, if_pos c]
        · rw [if_neg c, if_neg c]
          exact hr b (hb.elim Or.inl (fun q => Or.inr (by omega)))))
    rw [e1, sumN_split, sumN_congr m ih, sumN_mul, rk, fq]
    by_cases c : Q n = true
    · rw [if_pos c, if_pos c, Nat.add_zero (fq Q n), show m ^ (rk Q n + 1) = m * m ^ rk Q n by rw [Nat.pow_succ, Nat.mul_comm], sumN_split]
      congr 1
      refine sumN_congr m (fun d hd => sumN_congr _ (fun i hi => ?_))
      rw [asg_s hm c hd hi]
    · rw [if_neg c, if_neg c, Nat.add_zero (rk Q n)]
      have e2 : ∀ d, d < m → sumN (fun i => Φ (updN (asg m Q n i) n d)) (m ^ rk Q n) = sumN (fun i => Φ (asg m Q (n + 1) i)) (m ^ rk Q n) := fun d _ => sumN_congr _ (fun i _ => h _ _ (fun b hb => by
        unfold updN asg
        by_cases cb : b = n
        · subst cb
          exact absurd (hb.elim id (fun q => by omega)) c
        · rw [if_neg cb]
          by_cases c2 : b < n ∧ Q b = true
          · rw [if_pos c2, if_pos ⟨by omega, c2.2⟩]
          · rw [if_neg c2, if_neg (fun q => c2 ⟨by omega, q.2⟩)]))
      rw [sumN_congr m e2, sumN_const, ← Nat.mul_assoc, Nat.pow_succ]
/-- a row with the digits r -/
def encN (m : Nat) (r : Nat → Nat) : Nat → Nat
  | 0 => 0
  | n + 1 => r n * m ^ n + encN m r n
theorem encN_lt {m : Nat} (hm : 0 < m) {r : Nat → Nat} : ∀ n, (∀ b, b < n → r b < m) → encN m r n < m ^ n ∧ ∀ b, b < n → dgs m n (encN m r n) b = r b
  | 0, _ => ⟨by rw [encN]; exact Nat.pow_pos hm, fun b hb => absurd hb (by omega)⟩
  | n + 1, h => by
    obtain ⟨h1, h2⟩ := encN_lt hm n (fun b hb => h b (by omega))
    have h3 := h n (by omega)
    refine ⟨?_, fun b hb => ?_⟩
    · rw [encN, Nat.pow_succ]
      have q1 : r n * m ^ n + m ^ n ≤ m * m ^ n := by
        rw [← Nat.succ_mul]
        exact Nat.mul_le_mul_right _ h3
      rw [Nat.mul_comm (m ^ n) m]
      omega
    · rw [encN, dgs_s hm h3 h1]
      unfold updN
      by_cases c : b = n
      · rw [if_pos c, c]
      · rw [if_neg c]
        exact h2 b (by omega)
theorem dgs_lt {m n w : Nat} (hm : 0 < m) (b : Nat) : dgs m n w b < m := by
  unfold dgs
  split
  · exact Nat.mod_lt _ hm
  · exact hm
theorem asg_lt {m n i : Nat} {Q : Nat → Bool} (hm : 0 < m) (b : Nat) : asg m Q n i b < m := by
  unfold asg
  split
  · exact Nat.mod_lt _ hm
  · exact hm
/-! how many, the least, the greatest, up to W -/
def cnG (G : Nat → Bool) (W : Nat) : Nat := sumN (fun w => if G w then 1 else 0) W
def leM (G : Nat → Bool) (v : Nat → Nat) : Nat → Nat
  | 0 => 0
  | W + 1 => if G W then (if cnG G W = 0 ∨ v W < leM G v W then v W else leM G v W) else leM G v W
def grM (G : Nat → Bool) (v : Nat → Nat) : Nat → Nat
  | 0 => 0
  | W + 1 => if G W then (if cnG G W = 0 ∨ grM G v W < v W then v W else grM G v W) else grM G v W
def leC (m : Nat) (G : Nat → Bool) (v : Nat → Nat) : Nat → Nat
  | 0 => m
  | W + 1 => if G W then min (leC m G v W) (v W) else leC m G v W
def grC (G : Nat → Bool) (v : Nat → Nat) : Nat → Nat
  | 0 => 1
  | W + 1 => if G W then max (grC G v W) (v W) else grC G v W
theorem cnG_s (G : Nat → Bool) (W : Nat) : cnG G (W + 1) = cnG G W + (if G W then 1 else 0) := rfl
theorem cnG_pos {G : Nat → Bool} {W : Nat} : 0 < cnG G W ↔ ∃ w, w < W ∧ G w = true := sumN_pos W
theorem leM_ok {G : Nat → Bool} {v : Nat → Nat} : ∀ W, 0 < cnG G W → (∃ w, w < W ∧ G w = true ∧ v w = leM G v W) ∧ ∀ w, w < W → G w = true → leM G v W ≤ v w
  | 0, h => absurd h (Nat.lt_irrefl 0)
  | W + 1, h => by
    rw [leM]
    by_cases c : G W = true
    · rw [if_pos c]
      by_cases c0 : cnG G W = 0
      · rw [if_pos (Or.inl c0)]
        refine ⟨⟨W, by omega, c, rfl⟩, fun w h1 h2 => ?_⟩
        by_cases e : w = W
        · rw [e]; exact Nat.le_refl _
        · have := cnG_pos.2 ⟨w, (show w < W by omega), h2⟩
          omega
      · obtain ⟨⟨w, w1, w2, w3⟩, w4⟩ := leM_ok (G := G) (v := v) W (Nat.pos_of_ne_zero c0)
        by_cases c1 : v W < leM G v W
        · rw [if_pos (Or.inr c1)]
          refine ⟨⟨W, by omega, c, rfl⟩, fun w' h1 h2 => ?_⟩
          by_cases e : w' = W
          · rw [e]; exact Nat.le_refl _
          · have := w4 w' (by omega) h2
            omega
        · rw [if_neg (fun q => q.elim c0 c1)]
          refine ⟨⟨w, by omega, w2, w3⟩, fun w' h1 h2 => ?_⟩
          by_cases e : w' = W
          · rw [e]; omega
          · exact w4 w' (by omega) h2
    · rw [if_neg c]
      rw [cnG_s, if_neg c] at h
      obtain ⟨⟨w, w1, w2, w3⟩, w4⟩ := leM_ok (v := v) W h
      refine ⟨⟨w, by omega, w2, w3⟩, fun w' h1 h2 => ?_⟩
      by_cases e : w' = W
      · rw [e] at h2; exact absurd h2 c
      · exact w4 w' (by omega) h2
theorem grM_ok {G : Nat → Bool} {v : Nat → Nat} : ∀ W, 0 < cnG G W → (∃ w, w < W ∧ G w = true ∧ v w = grM G v W) ∧ ∀ w, w < W → G w = true → v w ≤ grM G v W
  | 0, h => absurd h (Nat.lt_irrefl 0)
  | W + 1, h => by
    rw [grM]
    by_cases c : G W = true
    · rw [if_pos c]
      by_cases c0 : cnG G W = 0
      · rw [if_pos (Or.inl c0)]
        refine ⟨⟨W, by omega, c, rfl⟩, fun w h1 h2 => ?_⟩
        by_cases e : w = W
        · rw [e]; exact Nat.le_refl _
        · have := cnG_pos.2 ⟨w, (show w < W by omega), h2⟩
          omega
      · obtain ⟨⟨w, w1, w2, w3⟩, w4⟩ := grM_ok (G := G) (v := v) W (Nat.pos_of_ne_zero c0)
        by_cases c1 : grM G v W < v W
        · rw [if_pos (Or.inr c1)]
          refine ⟨⟨W, by omega, c, rfl⟩, fun w' h1 h2 => ?_⟩
          by_cases e : w' = W
          · rw [e]; exact Nat.le_refl _
          · have := w4 w' (by omega) h2
            omega
        · rw [if_neg (fun q => q.elim c0 c1)]
          refine ⟨⟨w, by omega, w2, w3⟩, fun w' h1 h2 => ?_⟩
          by_cases e : w' = W
          · rw [e]; omega
          · exact w4 w' (by omega) h2
    · rw [if_neg c]
      rw [cnG_s, if_neg c] at h
      obtain ⟨⟨w, w1, w2, w3⟩, w4⟩ := grM_ok (v := v) W h
      refine ⟨⟨w, by omega, w2, w3⟩, fun w' h1 h2 => ?_⟩
      by_cases e : w' = W
      · rw [e] at h2; exact absurd h2 c
      · exact w4 w' (by omega) h2
theorem leC_ok {m : Nat} {G : Nat → Bool} {v : Nat → Nat} (hv : ∀ w, v w ≤ m) : ∀ W, (leC m G v W ≤ m ∧ (leC m G v W = m ∨ ∃ w, w < W ∧ G w = true ∧ v w = leC m G v W)) ∧ ∀ w, w < W → G w = true → leC m G v W ≤ v w
  | 0 => ⟨⟨Nat.le_refl _, Or.inl rfl⟩, fun w h => absurd h (by omega)⟩
  | W + 1 => by
    obtain ⟨⟨h1, h2⟩, h3⟩ := leC_ok (G := G) hv W
    have hw := hv W
    rw [leC]
    by_cases c : G W = true
    · rw [if_pos c]
      refine ⟨⟨by omega, ?_⟩, fun w' q1 q2 => ?_⟩
      · by_cases c1 : v W ≤ leC m G v W
        · rw [Nat.min_eq_right c1]; exact Or.inr ⟨W, by omega, c, rfl⟩
        · rw [Nat.min_eq_left (by omega)]
          exact h2.elim Or.inl (fun ⟨w, a1, a2, a3⟩ => Or.inr ⟨w, by omega, a2, a3⟩)
      · by_cases e : w' = W
        · rw [e]; omega
        · have := h3 w' (by omega) q2
          omega
    · rw [if_neg c]
      refine ⟨⟨h1, h2.elim Or.inl (fun ⟨w, a1, a2, a3⟩ => Or.inr ⟨w, by omega, a2, a3⟩)⟩, fun w' q1 q2 => ?_⟩
      by_cases e : w' = W
      · rw [e] at q2; exact absurd q2 c
      · exact h3 w' (by omega) q2
theorem grC_ok {G : Nat → Bool} {v : Nat → Nat} (hv : ∀ w, 1 ≤ v w) : ∀ W, (1 ≤ grC G v W ∧ (grC G v W = 1 ∨ ∃ w, w < W ∧ G w = true ∧ v w = grC G v W)) ∧ ∀ w, w < W → G w = true → v w ≤ grC G v W
  | 0 => ⟨⟨Nat.le_refl _, Or.inl rfl⟩, fun w h => absurd h (by omega)⟩
  | W + 1 => by
    obtain ⟨⟨h1, h2⟩, h3⟩ := grC_ok (G := G) hv W
    have hw := hv W
    rw [grC]
    by_cases c : G W = true
    · rw [if_pos c]
      refine ⟨⟨by omega, ?_⟩, fun w' q1 q2 => ?_⟩
      · by_cases c1 : grC G v W ≤ v W
        · rw [Nat.max_eq_right c1]; exact Or.inr ⟨W, by omega, c, rfl⟩
        · rw [Nat.max_eq_left (by omega)]
          exact h2.elim Or.inl (fun ⟨w, a1, a2, a3⟩ => Or.inr ⟨w, by omega, a2, a3⟩)
      · by_cases e : w' = W
        · rw [e]; omega
        · have := h3 w' (by omega) q2
          omega
    · rw [if_neg c]
      refine ⟨⟨h1, h2.elim Or.inl (fun ⟨w, a1, a2, a3⟩ => Or.inr ⟨w, by omega, a2, a3⟩)⟩, fun w' q1 q2 => ?_⟩
      by_cases e : w' = W
      · rw [e] at q2; exact absurd q2 c
      · exact h3 w' (by omega) q2
section CM
variable {m n : Nat} {Q : Nat → Bool} {G : (Nat → Nat) → Bool}
theorem fit_cnt (hm : 0 < m) (hQ : ∀ b, Q b = true → b < n) (hG : ∀ r r', (∀ b, Q b = true → r b = r' b) → G r = G r') : cnG (fun w => G (dgs m n w)) (m ^ n) = m ^ fq Q n * cnG (fun i => G (asg m Q n i)) (m ^ rk Q n) :=
  cnt_main hm n (fun r => if G r then 1 else 0) (fun r r' h => by
    have := hG r r' (fun b hb => h b (Or.inl hb))
    rw [this])
/-- a value that a row that fits has at an asked book -/
theorem fit_val (hm : 0 < m) (hG : ∀ r r', (∀ b, Q b = true → r b = r' b) → G r = G r') {b v : Nat} (hb : Q b = true) : (∃ w, w < m ^ n ∧ G (dgs m n w) = true ∧ dgs m n w b = v) ↔ (∃ i, i < m ^ rk Q n ∧ G (asg m Q n i) = true ∧ asg m Q n i b = v) := by
  have e := cnt_main hm (Q := Q) n (fun r => if (G r && (r b == v)) then 1 else 0) (fun r r' h => by
    have h1 := hG r r' (fun b hb => h b (Or.inl hb))
    have h2 := h b (Or.inl hb)
    rw [h1, h2])
  have p1 := sumN_pos (p := fun w => G (dgs m n w) && (dgs m n w b == v)) (m ^ n)
  have p2 := sumN_pos (p := fun i => G (asg m Q n i) && (asg m Q n i b == v)) (m ^ rk Q n)
  rw [e] at p1
  have pp : 0 < m ^ fq Q n := Nat.pow_pos hm
  have p3 : 0 < m ^ fq Q n * sumN (fun i => if (G (asg m Q n i) && (asg m Q n i b == v)) = true then 1 else 0) (m ^ rk Q n) ↔ 0 < sumN (fun i => if (G (asg m Q n i) && (asg m Q n i b == v)) = true then 1 else 0) (m ^ rk Q n) := ⟨fun h => Nat.pos_of_mul_pos_left h, fun h => Nat.mul_pos pp h⟩
  constructor
  · rintro ⟨w, w1, w2, w3⟩
    obtain ⟨i, i1, i2⟩ := p2.1 (p3.1 (p1.2 ⟨w, w1, by rw [w2, w3]; simp⟩))
    rw [Bool.and_eq_true, beq_iff_eq] at i2
    exact ⟨i, i1, i2.1, i2.2⟩
  · rintro ⟨i, i1, i2, i3⟩
    obtain ⟨w, w1, w2⟩ := p1.1 (p3.2 (p2.2 ⟨i, i1, by rw [i2, i3]; simp⟩))
    rw [Bool.and_eq_true, beq_iff_eq] at w2
    exact ⟨w, w1, w2.1, w2.2⟩
theorem fit_free (hm : 0 < m) (hQ : ∀ b, Q b = true → b < n) (hG : ∀ r r', (∀ b, Q b = true → r b = r' b) → G r = G r') {b v w0 : Nat} (hb : b < n) (hq : Q b = false) (hv : v < m) (h0 : G (dgs m n w0) = true) : ∃ w, w < m ^ n ∧ G (dgs m n w) = true ∧ dgs m n w b = v := by
  obtain ⟨e1, e2⟩ := encN_lt hm (r := updN (dgs m n w0) b v) n (fun c hc => by
    unfold updN
    split
    · exact hv
    · exact dgs_lt hm c)
  refine ⟨_, e1, ?_, ?_⟩
  · rw [hG _ (dgs m n w0) (fun c hc => ?_)]
    · exact h0
    · rw [e2 c (hQ c hc)]
      unfold updN
      rw [if_neg (fun q => by rw [q, hq] at hc; cases hc)]
  · rw [e2 b hb]
    unfold updN
    rw [if_pos rfl]
/-- both tell the same least and greatest -/
theorem fit_span (hm : 0 < m) (hQ : ∀ b, Q b = true → b < n) (hG : ∀ r r', (∀ b, Q b = true → r b = r' b) → G r = G r') {b : Nat} (hb : b < n) (hc : 0 < cnG (fun w => G (dgs m n w)) (m ^ n)) : leM (fun w => G (dgs m n w)) (fun w => dgs m n w b + 1) (m ^ n) = (if Q b then leC m (fun i => G (asg m Q n i)) (fun i => asg m Q n i b + 1) (m ^ rk Q n) else 1) ∧ grM (fun w => G (dgs m n w)) (fun w => dgs m n w b + 1) (m ^ n) = (if Q b then grC (fun i => G (asg m Q n i)) (fun i => asg m Q n i b + 1) (m ^ rk Q n) else m) := by
  obtain ⟨⟨w, w1, w2, w3⟩, w4⟩ := leM_ok (v := fun w => dgs m n w b + 1) _ hc
  obtain ⟨⟨x, x1, x2, x3⟩, x4⟩ := grM_ok (v := fun w => dgs m n w b + 1) _ hc
  have lw := dgs_lt (n := n) (w := w) hm b
  have lx := dgs_lt (n := n) (w := x) hm b
  cases hq : Q b with
  | true =>
    rw [if_pos rfl, if_pos rfl]
    obtain ⟨⟨a1, a2⟩, a3⟩ := leC_ok (m := m) (G := fun i => G (asg m Q n i)) (v := fun i => asg m Q n i b + 1) (fun i => asg_lt hm b) (m ^ rk Q n)
    obtain ⟨⟨b1, b2⟩, b3⟩ := grC_ok (G := fun i => G (asg m Q n i)) (v := fun i => asg m Q n i b + 1) (fun i => by omega) (m ^ rk Q n)
    obtain ⟨i, i1, i2, i3⟩ := (fit_val hm hG hq).1 ⟨w, w1, w2, rfl⟩
    obtain ⟨j, j1, j2, j3⟩ := (fit_val hm hG hq).1 ⟨x, x1, x2, rfl⟩
    have c1 := a3 i i1 i2
    have c2 := b3 j j1 j2
    constructor
    · rcases a2 with a2 | ⟨k, k1, k2, k3⟩
      · omega
      · obtain ⟨y, y1, y2, y3⟩ := (fit_val hm hG hq).2 ⟨k, k1, k2, rfl⟩
        have := w4 y y1 y2
        omega
    · rcases b2 with b2 | ⟨k, k1, k2, k3⟩
      · omega
      · obtain ⟨y, y1, y2, y3⟩ := (fit_val hm hG hq).2 ⟨k, k1, k2, rfl⟩
        have := x4 y y1 y2
        omega
  | false =>
    rw [if_neg (by decide), if_neg (by decide)]
    obtain ⟨y, y1, y2, y3⟩ := fit_free hm hQ hG (v := 0) hb hq hm w2
    obtain ⟨z, z1, z2, z3⟩ := fit_free hm hQ hG (v := m - 1) hb hq (by omega) w2
    have c1 := w4 y y1 y2
    have c2 := x4 z z1 z2
    omega
end CM
