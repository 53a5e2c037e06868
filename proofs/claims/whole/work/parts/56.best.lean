/-! ===== the best order, purely ===== -/
def bit1 (s x : Nat) : Bool := decide (s / 2 ^ x % 2 = 1)
def bitsL (s i : Nat) : List Nat := (List.range i).filter (bit1 s)
def pc (s : Nat) : Nat := (bitsL s 6).length
theorem bitsL_s (s i : Nat) : bitsL s (i + 1) = bitsL s i ++ (if s / 2 ^ i % 2 = 1 then [i] else []) := by
  unfold bitsL
  rw [List.range_succ, List.filter_append]
  congr 1
  unfold bit1
  by_cases c : s / 2 ^ i % 2 = 1
  · rw [if_pos c, List.filter_cons_of_pos (by simpa using c)]; rfl
  · rw [if_neg c, List.filter_cons_of_neg (by simpa using c)]; rfl
theorem bitsL_mem {s i x : Nat} : x ∈ bitsL s i ↔ x < i ∧ s / 2 ^ x % 2 = 1 := by
  unfold bitsL bit1
  rw [List.mem_filter, List.mem_range, decide_eq_true_iff]
theorem bits_nb : ∀ nb, nb ≤ 6 → ∀ s, s < 2 ^ nb → bitsL s nb = bitsL s 6 := by decide +kernel
theorem pc_sub1 : ∀ s, s < 64 → ∀ x, x < 6 → s / 2 ^ x % 2 = 1 → pc (s - 2 ^ x) + 1 = pc s ∧ s - 2 ^ x < s := by decide +kernel
theorem pc_sub2' : ∀ s, s < 64 → ∀ x, x < 6 → ∀ b, b < 6 → bit1 s x = true → bit1 (s - 2 ^ x) b = (bit1 s b && !(b == x)) := by decide +kernel
theorem pc_sub2 (s : Nat) (hs : s < 64) (x : Nat) (hx : x < 6) (b : Nat) (hb : b < 6) (h : s / 2 ^ x % 2 = 1) : ((s - 2 ^ x) / 2 ^ b % 2 = 1 ↔ (s / 2 ^ b % 2 = 1 ∧ ¬ b = x)) := by
  have e := pc_sub2' s hs x hx b hb (by unfold bit1; exact decide_eq_true h)
  unfold bit1 at e
  rw [← decide_eq_true_iff (p := (s - 2 ^ x) / 2 ^ b % 2 = 1), e]
  simp
theorem pc_sub (s : Nat) (hs : s < 64) (x : Nat) (hx : x < 6) (h : s / 2 ^ x % 2 = 1) : pc (s - 2 ^ x) + 1 = pc s ∧ s - 2 ^ x < s ∧ ∀ b, b < 6 → ((s - 2 ^ x) / 2 ^ b % 2 = 1 ↔ (s / 2 ^ b % 2 = 1 ∧ ¬ b = x)) := ⟨(pc_sub1 s hs x hx h).1, (pc_sub1 s hs x hx h).2, fun b hb => pc_sub2 s hs x hx b hb h⟩
theorem pc_0 : ∀ s, s < 64 → (pc s = 0 ↔ s = 0) ∧ pc s ≤ 6 := by decide +kernel
theorem picks_bits : ∀ s, s < 64 → picks (bitsL s 6) = (bitsL s 6).map (fun x => (x, bitsL (s - 2 ^ x) 6)) := by decide +kernel
theorem mono_bits : ∀ s, s < 64 → ∀ a, a < pc s → ∀ b, b < pc s → ((bitsL s 6).getD a 0 ≤ (bitsL s 6).getD b 0 ↔ a ≤ b) ∧ (bitsL s 6).getD a 0 < 6 := by decide +kernel
def numO (O : List Nat) : Nat := O.foldl (fun a d => 10 * a + d + 1) 0
def rV (T : TD) (O : List Nat) : Nat × Nat := reaL T O.reverse 0 (0, 1)
def swt (T : TD) : List Nat → Nat
  | [] => 0
  | d :: L => swt T L + wn T d
theorem swt_app (T : TD) : ∀ a b, swt T (a ++ b) = swt T a + swt T b
  | [], b => by rw [List.nil_append, swt, Nat.zero_add]
  | d :: a, b => by
    rw [List.cons_append, swt, swt, swt_app T a b]
    omega
theorem swt_rev (T : TD) : ∀ a, swt T a.reverse = swt T a
  | [] => rfl
  | d :: a => by
    rw [List.reverse_cons, swt_app, swt_rev T a, swt, swt, swt]
    omega
theorem reaL_snoc (T : TD) (x : Nat) : ∀ L W f, reaL T (L ++ [x]) W f = fA (reaL T L W f).1 (reaL T L W f).2 (wn T x * gn T x) (2 * (W + swt T L + wn T x))
  | [], W, f => rfl
  | d :: L, W, f => by
    rw [List.cons_append, reaL, reaL_snoc T x L, reaL, swt]
    rw [show W + wn T d + swt T L + wn T x = W + (swt T L + wn T d) + wn T x by omega]
theorem rV_cons (T : TD) (x : Nat) (O : List Nat) : rV T (x :: O) = fA (rV T O).1 (rV T O).2 (wn T x * gn T x) (2 * (swt T O + wn T x)) := by
  unfold rV
  rw [List.reverse_cons, reaL_snoc, Nat.zero_add, swt_rev]
theorem rV_ok {T : TD} (hT : GoodT T) {O : List Nat} (hl : O.length ≤ 6) (hO : ∀ d ∈ O, d < tNb T) : FrOK O.length (rV T O) := by
  have := reaL_ok hT O.reverse 0 (0, 1) 0 FrOK.zero (by rw [List.length_reverse]; omega) (by omega) (fun d hd => hO d (List.mem_reverse.1 hd))
  rw [List.length_reverse, Nat.zero_add] at this
  exact this
theorem fA_cross {a b u l : Nat} (hb : 0 < b) (hl : 0 < l) : (fA a b u l).1 * (b * l) = (a * l + u * b) * (fA a b u l).2 ∧ 0 < (fA a b u l).2 := by
  have hg := gcd_lt (x := b) hl
  have hD := fD_pos hb hl
  have hG := gcd_lt (x := fN a b u l) hD
  have g1 : Nat.gcd b l * (l / Nat.gcd b l) = l := Nat.mul_div_cancel' (Nat.gcd_dvd_right b l)
  have g2 : Nat.gcd b l * (b / Nat.gcd b l) = b := Nat.mul_div_cancel' (Nat.gcd_dvd_left b l)
  have g3 : Nat.gcd (fN a b u l) (fD b l) * (fA a b u l).1 = fN a b u l := Nat.mul_div_cancel' (Nat.gcd_dvd_left _ _)
  have g4 : Nat.gcd (fN a b u l) (fD b l) * (fA a b u l).2 = fD b l := Nat.mul_div_cancel' (Nat.gcd_dvd_right _ _)
  have e1 : Nat.gcd b l * fN a b u l = a * l + u * b := by
    unfold fN
    rw [Nat.mul_add, Nat.mul_left_comm, g1, Nat.mul_left_comm, g2]
  have e2 : Nat.gcd b l * fD b l = b * l := by
    unfold fD
    rw [Nat.mul_left_comm, g1]
  refine ⟨?_, Nat.div_pos hG.2 hG.1⟩
  apply Nat.eq_of_mul_eq_mul_left hG.1
  calc Nat.gcd (fN a b u l) (fD b l) * ((fA a b u l).1 * (b * l)) = (Nat.gcd (fN a b u l) (fD b l) * (fA a b u l).1) * (b * l) := by ac_rfl
    _ = fN a b u l * (Nat.gcd b l * fD b l) := by rw [g3, e2]
    _ = (Nat.gcd b l * fN a b u l) * fD b l := by ac_rfl
    _ = (a * l + u * b) * (Nat.gcd (fN a b u l) (fD b l) * (fA a b u l).2) := by rw [e1, g4]
    _ = Nat.gcd (fN a b u l) (fD b l) * ((a * l + u * b) * (fA a b u l).2) := by ac_rfl
def lessF (f g : Nat × Nat) : Bool := decide (f.1 * g.2 < g.1 * f.2)
theorem fA_less0 {a1 b1 a2 b2 A1 B1 A2 B2 u l : Nat} (h1 : A1 * (b1 * l) = (a1 * l + u * b1) * B1) (h2 : A2 * (b2 * l) = (a2 * l + u * b2) * B2) (p1 : 0 < B1) (p2 : 0 < B2) (q1 : 0 < b1) (q2 : 0 < b2) (hl : 0 < l) : (A1 * B2 < A2 * B1) ↔ (a1 * b2 < a2 * b1) := by
  have k1 : 0 < (b1 * l) * (b2 * l) := Nat.mul_pos (Nat.mul_pos q1 hl) (Nat.mul_pos q2 hl)
  have k2 : 0 < B1 * B2 * l := Nat.mul_pos (Nat.mul_pos p1 p2) hl
  have e1 : A1 * B2 * ((b1 * l) * (b2 * l)) = (a1 * b2 * l + u * b1 * b2) * (B1 * B2 * l) := by
    calc A1 * B2 * ((b1 * l) * (b2 * l)) = (A1 * (b1 * l)) * (B2 * (b2 * l)) := by ac_rfl
      _ = ((a1 * l + u * b1) * B1) * (B2 * (b2 * l)) := by rw [h1]
      _ = ((a1 * l + u * b1) * b2) * (B1 * B2 * l) := by ac_rfl
      _ = (a1 * b2 * l + u * b1 * b2) * (B1 * B2 * l) := by rw [Nat.add_mul (a1 * l), Nat.mul_right_comm a1 l b2]
  have e2 : A2 * B1 * ((b1 * l) * (b2 * l)) = (a2 * b1 * l + u * b1 * b2) * (B1 * B2 * l) := by
    calc A2 * B1 * ((b1 * l) * (b2 * l)) = (A2 * (b2 * l)) * (B1 * (b1 * l)) := by ac_rfl
      _ = ((a2 * l + u * b2) * B2) * (B1 * (b1 * l)) := by rw [h2]
      _ = ((a2 * l + u * b2) * b1) * (B1 * B2 * l) := by ac_rfl
      _ = (a2 * b1 * l + u * b1 * b2) * (B1 * B2 * l) := by rw [Nat.add_mul (a2 * l), Nat.mul_right_comm a2 l b1, Nat.mul_right_comm u b2 b1]
  rw [← Nat.mul_lt_mul_right k1, e1, e2, Nat.mul_lt_mul_right k2, Nat.add_lt_add_iff_right, Nat.mul_lt_mul_right hl]
theorem fA_less {f g : Nat × Nat} {u l : Nat} (hf : 0 < f.2) (hg : 0 < g.2) (hl : 0 < l) : lessF (fA f.1 f.2 u l) (fA g.1 g.2 u l) = lessF f g := by
  obtain ⟨h1, p1⟩ := fA_cross (a := f.1) (u := u) hf hl
  obtain ⟨h2, p2⟩ := fA_cross (a := g.1) (u := u) hg hl
  unfold lessF
  rw [decide_eq_decide]
  exact fA_less0 h1 h2 p1 p2 hf hg hl
/-- a number for each fraction whose lower part divides M -/
def vF (M : Nat) (f : Nat × Nat) : Nat := f.1 * (M / f.2)
theorem less_v {M : Nat} {f g : Nat × Nat} (h0 : 0 < M) (hf : f.2 ∣ M) (hg : g.2 ∣ M) : lessF f g = decide (vF M f < vF M g) := by
  have e1 : f.2 * (M / f.2) = M := Nat.mul_div_cancel' hf
  have e2 : g.2 * (M / g.2) = M := Nat.mul_div_cancel' hg
  unfold lessF vF
  rw [decide_eq_decide]
  generalize M / f.2 = m1 at *
  generalize M / g.2 = m2 at *
  have q1 : 0 < m1 := Nat.pos_of_ne_zero (fun q => by rw [q, Nat.mul_zero] at e1; omega)
  have q2 : 0 < m2 := Nat.pos_of_ne_zero (fun q => by rw [q, Nat.mul_zero] at e2; omega)
  have k1 : 0 < m1 * m2 := Nat.mul_pos q1 q2
  have x1 : f.1 * g.2 * (m1 * m2) = f.1 * m1 * M := by rw [← e2]; ac_rfl
  have x2 : g.1 * f.2 * (m1 * m2) = g.1 * m2 * M := by rw [← e1]; ac_rfl
  rw [← Nat.mul_lt_mul_right k1, x1, x2, Nat.mul_lt_mul_right h0]
theorem all_div : ∀ n, ∃ M, 0 < M ∧ ∀ b, 0 < b → b ≤ n → b ∣ M
  | 0 => ⟨1, by decide, fun b h1 h2 => by omega⟩
  | n + 1 => by
    obtain ⟨M, h1, h2⟩ := all_div n
    refine ⟨M * (n + 1), Nat.mul_pos h1 (by omega), fun b h3 h4 => ?_⟩
    by_cases c : b = n + 1
    · rw [c]; exact Nat.dvd_mul_left _ _
    · exact Nat.dvd_trans (h2 b h3 (by omega)) (Nat.dvd_mul_right _ _)
/-! the first of the best -/
def bsX (le : List Nat → List Nat → Bool) : Option (List Nat) → List Nat → Option (List Nat)
  | none, O => some O
  | some O', O => if le O' O then some O else some O'
def bsv (v : List Nat → Nat) : Option (List Nat) → List Nat → Option (List Nat) := bsX (fun a b => decide (v a < v b))
def bst (T : TD) : Option (List Nat) → List Nat → Option (List Nat) := bsX (fun a b => lessF (rV T a) (rV T b))
def cmb (v : List Nat → Nat) (acc : Option (List Nat)) : Option (List Nat) → Option (List Nat)
  | none => acc
  | some m => bsv v acc m
theorem bsv_assoc (v : List Nat → Nat) (acc : Option (List Nat)) (y m : List Nat) : bsv v (bsv v acc y) m = cmb v acc (bsv v (some y) m) := by
  unfold bsv
  cases acc with
  | none =>
    by_cases c : v y < v m
    · simp [bsX, cmb, bsv, c]
    · simp [bsX, cmb, bsv, c]
  | some a =>
    by_cases c1 : v a < v y
    · by_cases c2 : v y < v m
      · have c3 : v a < v m := by omega
        simp [bsX, cmb, bsv, c1, c2, c3]
      · simp [bsX, cmb, bsv, c1, c2]
    · by_cases c2 : v y < v m
      · by_cases c3 : v a < v m
        · simp [bsX, cmb, bsv, c1, c2, c3]
        · simp [bsX, cmb, bsv, c1, c2, c3]
      · have c3 : ¬ v a < v m := by omega
        simp [bsX, cmb, bsv, c1, c2, c3]
theorem fold_cmb (v : List Nat → Nat) : ∀ (L : List (List Nat)) acc, L.foldl (bsv v) acc = cmb v acc (L.foldl (bsv v) none)
  | [], acc => rfl
  | y :: L, acc => by
    rw [List.foldl_cons, List.foldl_cons, fold_cmb v L (bsv v acc y), fold_cmb v L (bsv v none y)]
    cases L.foldl (bsv v) none with
    | none =>
      cases acc <;> rfl
    | some m => exact bsv_assoc v acc y m
theorem fold_mem {le : List Nat → List Nat → Bool} : ∀ (L : List (List Nat)) acc O, L.foldl (bsX le) acc = some O → O ∈ L ∨ acc = some O
  | [], acc, O, h => Or.inr h
  | y :: L, acc, O, h => by
    rw [List.foldl_cons] at h
    rcases fold_mem L _ O h with h1 | h1
    · exact Or.inl (List.mem_cons_of_mem _ h1)
    · cases acc with
      | none => cases h1; exact Or.inl (List.mem_cons_self ..)
      | some a =>
        rw [bsX] at h1
        by_cases c : le a y = true
        · rw [if_pos c] at h1
          cases h1
          exact Or.inl (List.mem_cons_self ..)
        · rw [if_neg c] at h1
          exact Or.inr h1
theorem fold_congr {le le' : List Nat → List Nat → Bool} {ok : List Nat → Prop} (h : ∀ a b, ok a → ok b → le a b = le' a b) : ∀ (L : List (List Nat)) acc, (∀ O ∈ L, ok O) → (∀ O, acc = some O → ok O) → L.foldl (bsX le) acc = L.foldl (bsX le') acc
  | [], acc, _, _ => rfl
  | y :: L, acc, h1, h2 => by
    have hy := h1 y (List.mem_cons_self ..)
    have e : bsX le acc y = bsX le' acc y := by
      cases acc with
      | none => rfl
      | some a => rw [bsX, bsX, h a y (h2 a rfl) hy]
    rw [List.foldl_cons, List.foldl_cons, e]
    refine fold_congr h L _ (fun O hO => h1 O (List.mem_cons_of_mem _ hO)) (fun O hO => ?_)
    cases acc with
    | none => cases hO; exact hy
    | some a =>
      rw [bsX] at hO
      by_cases c : le' a y = true
      · rw [if_pos c] at hO
        cases hO
        exact hy
      · rw [if_neg c] at hO
        exact h2 O hO
theorem fold_map {v : List Nat → Nat} {x : Nat} {ok : List Nat → Prop} (h : ∀ a b, ok a → ok b → (v (x :: a) < v (x :: b) ↔ v a < v b)) : ∀ (L : List (List Nat)) acc, (∀ O ∈ L, ok O) → (∀ O, acc = some O → ok O) → (L.map (fun p => x :: p)).foldl (bsv v) (acc.map (fun p => x :: p)) = (L.foldl (bsv v) acc).map (fun p => x :: p)
  | [], acc, _, _ => rfl
  | y :: L, acc, h1, h2 => by
    have hy := h1 y (List.mem_cons_self ..)
    have e : bsv v (acc.map (fun p => x :: p)) (x :: y) = (bsv v acc y).map (fun p => x :: p) := by
      cases acc with
      | none => rfl
      | some a =>
        have q := h a y (h2 a rfl) hy
        by_cases c : v a < v y
        · have c' := q.2 c
          simp [bsv, bsX, c, c']
        · have c' : ¬ v (x :: a) < v (x :: y) := fun z => c (q.1 z)
          simp [bsv, bsX, c, c']
    rw [List.map_cons, List.foldl_cons, List.foldl_cons, e]
    refine fold_map h L _ (fun O hO => h1 O (List.mem_cons_of_mem _ hO)) (fun O hO => ?_)
    cases acc with
    | none => cases hO; exact hy
    | some a =>
      unfold bsv at hO
      rw [bsX] at hO
      by_cases c : decide (v a < v y) = true
      · rw [if_pos c] at hO
        cases hO
        exact hy
      · rw [if_neg c] at hO
        exact h2 O hO
theorem fold_some {le : List Nat → List Nat → Bool} : ∀ (L : List (List Nat)) a, ∃ O, L.foldl (bsX le) (some a) = some O
  | [], a => ⟨a, rfl⟩
  | y :: L, a => by
    rw [List.foldl_cons, bsX]
    by_cases c : le a y = true
    · rw [if_pos c]; exact fold_some L y
    · rw [if_neg c]; exact fold_some L a
/-- the best of a set, by the best of what lies above -/
def dpo (T : TD) : Nat → Nat → List Nat
  | 0, _ => []
  | n + 1, s => (((bitsL s 6).map (fun x => x :: dpo T n (s - 2 ^ x))).foldl (bst T) none).getD []
def sWk (T : TD) (s : Nat) : Nat → Nat
  | 0 => 0
  | k + 1 => sWk T s k + (if s / 2 ^ k % 2 = 1 then wn T k else 0)
theorem sWk_sub {T : TD} {s x : Nat} (hs : s < 64) (hx : x < 6) (hb : s / 2 ^ x % 2 = 1) : ∀ k, k ≤ 6 → sWk T s k = sWk T (s - 2 ^ x) k + (if x < k then wn T x else 0)
  | 0, _ => rfl
  | k + 1, hk => by
    have h := (pc_sub s hs x hx hb).2.2 k (by omega)
    rw [sWk, sWk, sWk_sub hs hx hb k (by omega)]
    by_cases c : k = x
    · subst c
      rw [if_neg (by omega), if_pos hb, if_neg (fun q => (h.1 q).2 rfl), if_pos (by omega)]
    · by_cases c2 : s / 2 ^ k % 2 = 1
      · rw [if_pos c2, if_pos (h.2 ⟨c2, c⟩)]
        by_cases c3 : x < k
        · rw [if_pos c3, if_pos (by omega)]; omega
        · rw [if_neg c3, if_neg (by omega)]; omega
      · rw [if_neg c2, if_neg (fun q => c2 (h.1 q).1)]
        by_cases c3 : x < k
        · rw [if_pos c3, if_pos (by omega)]; omega
        · rw [if_neg c3, if_neg (by omega)]
/-- an order of the set s -/
def Of (T : TD) (s : Nat) (O : List Nat) : Prop := O.length = pc s ∧ (∀ d ∈ O, d < 6 ∧ s / 2 ^ d % 2 = 1) ∧ swt T O = sWk T s 6
theorem Of_cons {T : TD} {s x : Nat} {O : List Nat} (hs : s < 64) (hx : x < 6) (hb : s / 2 ^ x % 2 = 1) (h : Of T (s - 2 ^ x) O) : Of T s (x :: O) := by
  obtain ⟨p1, p2, p3⟩ := pc_sub s hs x hx hb
  obtain ⟨h1, h2, h3⟩ := h
  refine ⟨by rw [List.length_cons, h1, p1], fun d hd => ?_, by rw [swt, h3, sWk_sub hs hx hb 6 (by omega), if_pos hx]⟩
  rcases List.mem_cons.1 hd with rfl | hd
  · exact ⟨hx, hb⟩
  · have := h2 d hd
    exact ⟨this.1, ((p3 d this.1).1 this.2).1⟩
theorem pc_z {T : TD} {s : Nat} (hs : s < 64) (h : pc s = 0) : Of T s [] := by
  have := (pc_0 s hs).1.1 h
  subst this
  refine ⟨by rw [h]; rfl, fun d hd => (by cases hd), ?_⟩
  simp [swt, sWk]
theorem cands_ne {s : Nat} (hs : s < 64) (h : 0 < pc s) : ∃ x r, bitsL s 6 = x :: r := by
  unfold pc at h
  cases hq : bitsL s 6 with
  | nil => rw [hq] at h; cases h
  | cons x r => exact ⟨x, r, rfl⟩
theorem dpo_some {T : TD} {n s : Nat} (hs : s < 64) (h : 0 < pc s) : ((bitsL s 6).map (fun x => x :: dpo T n (s - 2 ^ x))).foldl (bst T) none = some (dpo T (n + 1) s) := by
  obtain ⟨x, r, hq⟩ := cands_ne hs h
  rw [dpo, hq, List.map_cons, List.foldl_cons]
  obtain ⟨O, hO⟩ := fold_some (le := fun a b => lessF (rV T a) (rV T b)) (r.map (fun x => x :: dpo T n (s - 2 ^ x))) (x :: dpo T n (s - 2 ^ x))
  have e : (r.map (fun x => x :: dpo T n (s - 2 ^ x))).foldl (bst T) (bst T none (x :: dpo T n (s - 2 ^ x))) = some O := hO
  rw [e]
  rfl
theorem dpo_ex {T : TD} {n s : Nat} (hs : s < 64) (h : pc s = n + 1) : ∃ x, x < 6 ∧ s / 2 ^ x % 2 = 1 ∧ dpo T (n + 1) s = x :: dpo T n (s - 2 ^ x) := by
  have e := dpo_some (T := T) (n := n) hs (by omega)
  rcases fold_mem _ _ _ e with h1 | h1
  · obtain ⟨x, hx, hxe⟩ := List.mem_map.1 h1
    have := bitsL_mem.1 hx
    exact ⟨x, this.1, this.2, hxe.symm⟩
  · cases h1
theorem dpo_of {T : TD} : ∀ n s, s < 64 → pc s = n → Of T s (dpo T n s)
  | 0, s, hs, h => pc_z hs h
  | n + 1, s, hs, h => by
    obtain ⟨x, h1, h2, h3⟩ := dpo_ex (T := T) hs h
    obtain ⟨p1, p2, p3⟩ := pc_sub s hs x h1 h2
    rw [h3]
    exact Of_cons hs h1 h2 (dpo_of n (s - 2 ^ x) (by omega) (by omega))
theorem prm_s {s n : Nat} (hs : s < 64) : prm (n + 1) (bitsL s 6) = (bitsL s 6).flatMap (fun x => (prm n (bitsL (s - 2 ^ x) 6)).map (fun p => x :: p)) := by
  rw [prm, picks_bits s hs, List.flatMap_map]
theorem prm_of {T : TD} : ∀ n s, s < 64 → pc s = n → ∀ O ∈ prm n (bitsL s 6), Of T s O
  | 0, s, hs, h, O, hO => by
    rw [prm] at hO
    rw [List.mem_singleton.1 hO]
    exact pc_z hs h
  | n + 1, s, hs, h, O, hO => by
    rw [prm_s hs] at hO
    obtain ⟨x, hx, hO2⟩ := List.mem_flatMap.1 hO
    obtain ⟨O2, h3, rfl⟩ := List.mem_map.1 hO2
    have hb := bitsL_mem.1 hx
    obtain ⟨p1, p2, p3⟩ := pc_sub s hs x hb.1 hb.2
    exact Of_cons hs hb.1 hb.2 (prm_of n (s - 2 ^ x) (by omega) (by omega) O2 h3)
theorem Of_rV {T : TD} (hT : GoodT T) {s : Nat} (hs : s < 64) (hn : s < 2 ^ tNb T) {O : List Nat} (h : Of T s O) : FrOK O.length (rV T O) ∧ O.length ≤ 6 ∧ ∀ d ∈ O, d < tNb T := by
  have h6 := (pc_0 s hs).2
  have hd : ∀ d ∈ O, d < tNb T := fun d hd => by
    have := h.2.1 d hd
    have hb := bit_z (tNb T) hT.1 s hn d this.1
    exact Nat.lt_of_not_le (fun q => hb q this.2)
  exact ⟨rV_ok hT (by have := h.1; omega) hd, by have := h.1; omega, hd⟩
theorem prm_best {T : TD} (hT : GoodT T) : ∀ n s, s < 64 → s < 2 ^ tNb T → pc s = n → (prm n (bitsL s 6)).foldl (bst T) none = some (dpo T n s)
  | 0, s, hs, _, h => rfl
  | n + 1, s, hs, hn, h => by
    obtain ⟨M, hM, hd⟩ := all_div (240 ^ 6)
    have dv : ∀ s', s' < 64 → s' < 2 ^ tNb T → ∀ O, Of T s' O → (rV T O).2 ∣ M := fun s' q1 q2 O hO => by
      obtain ⟨a1, a2, a3⟩ := Of_rV hT q1 q2 hO
      exact hd _ a1.1 (Nat.le_trans a1.2.1 (Nat.pow_le_pow_right (by decide) a2))
    have cg : ∀ s', s' < 64 → s' < 2 ^ tNb T → ∀ a b, Of T s' a → Of T s' b → lessF (rV T a) (rV T b) = decide (vF M (rV T a) < vF M (rV T b)) := fun s' q1 q2 a b ha hb => less_v hM (dv s' q1 q2 a ha) (dv s' q1 q2 b hb)
    have blk : ∀ xs : List Nat, (∀ x ∈ xs, x < 6 ∧ s / 2 ^ x % 2 = 1) → ∀ acc, (xs.flatMap (fun x => (prm n (bitsL (s - 2 ^ x) 6)).map (fun p => x :: p))).foldl (bsv (fun O => vF M (rV T O))) acc = (xs.map (fun x => x :: dpo T n (s - 2 ^ x))).foldl (bsv (fun O => vF M (rV T O))) acc := by
      intro xs
      induction xs with
      | nil => intro _ acc; rfl
      | cons x xs ih =>
        intro hxs acc
        obtain ⟨hx, hb⟩ := hxs x (List.mem_cons_self ..)
        obtain ⟨p1, p2, p3⟩ := pc_sub s hs x hx hb
        have s1 : s - 2 ^ x < 64 := by omega
        have s2 : s - 2 ^ x < 2 ^ tNb T := by omega
        have iH := prm_best hT n (s - 2 ^ x) s1 s2 (by omega)
        have iV : (prm n (bitsL (s - 2 ^ x) 6)).foldl (bsv (fun O => vF M (rV T O))) none = some (dpo T n (s - 2 ^ x)) := by
          rw [← iH]
          exact (fold_congr (cg _ s1 s2) _ none (prm_of n _ s1 (by omega)) (fun O hO => (by cases hO))).symm
        rw [List.flatMap_cons, List.foldl_append, List.map_cons, List.foldl_cons, ih (fun y hy => hxs y (List.mem_cons_of_mem _ hy))]
        congr 1
        rw [fold_cmb]
        have e := fold_map (v := fun O => vF M (rV T O)) (x := x) (ok := Of T (s - 2 ^ x)) (fun a b ha hb2 => by
          have o1 := Of_rV hT s1 s2 ha
          have o2 := Of_rV hT s1 s2 hb2
          have c1 := cg s hs hn (x :: a) (x :: b) (Of_cons hs hx hb ha) (Of_cons hs hx hb hb2)
          have c2 := cg _ s1 s2 a b ha hb2
          have w0 : 0 < 2 * (swt T a + wn T x) := by
            have hxn : x < tNb T := Nat.lt_of_not_le (fun q => bit_z (tNb T) hT.1 s hn x hx q hb)
            have := (wg_n hT hxn).1
            omega
          rw [rV_cons, rV_cons, hb2.2.2, ← ha.2.2, fA_less o1.1.1 o2.1.1 w0, c2] at c1
          rw [rV_cons, rV_cons, hb2.2.2, ← ha.2.2]
          exact (decide_eq_decide.1 c1).symm) (prm n (bitsL (s - 2 ^ x) 6)) none (prm_of n _ s1 (by omega)) (fun O hO => (by cases hO))
        rw [iV] at e
        have e' : ((prm n (bitsL (s - 2 ^ x) 6)).map (fun p => x :: p)).foldl (bsv (fun O => vF M (rV T O))) none = some (x :: dpo T n (s - 2 ^ x)) := e
        rw [e']
        rfl
    have hall : ∀ x ∈ bitsL s 6, x < 6 ∧ s / 2 ^ x % 2 = 1 := fun x hx => bitsL_mem.1 hx
    have st1 : (prm (n + 1) (bitsL s 6)).foldl (bst T) none = (prm (n + 1) (bitsL s 6)).foldl (bsv (fun O => vF M (rV T O))) none := fold_congr (cg s hs hn) _ none (prm_of (n + 1) s hs h) (fun O hO => (by cases hO))
    have st2 : ((bitsL s 6).map (fun x => x :: dpo T n (s - 2 ^ x))).foldl (bst T) none = ((bitsL s 6).map (fun x => x :: dpo T n (s - 2 ^ x))).foldl (bsv (fun O => vF M (rV T O))) none := fold_congr (cg s hs hn) _ none (fun O hO => by
      obtain ⟨x, hx, rfl⟩ := List.mem_map.1 hO
      obtain ⟨h1, h2⟩ := hall x hx
      obtain ⟨p1, p2, p3⟩ := pc_sub s hs x h1 h2
      exact Of_cons hs h1 h2 (dpo_of n _ (by omega) (by omega))) (fun O hO => (by cases hO))
    rw [st1, prm_s hs, blk _ hall, ← st2]
    exact dpo_some hs (by omega)
/-! prm goes with a map -/
theorem picks_map (f : Nat → Nat) : ∀ l, picks (l.map f) = (picks l).map (fun q => (f q.1, q.2.map f))
  | [] => rfl
  | x :: l => by
    rw [List.map_cons, picks, picks, picks_map f l, List.map_cons, List.map_map, List.map_map]
    rfl
theorem prm_map (f : Nat → Nat) : ∀ n l, prm n (l.map f) = (prm n l).map (List.map f)
  | 0, l => rfl
  | n + 1, l => by
    rw [prm, prm, picks_map, List.flatMap_map, List.map_flatMap]
    congr 1
    funext q
    rw [prm_map f n, List.map_map, List.map_map]
    rfl
theorem bits_rng : ∀ s, s < 64 → bitsL s 6 = (List.range (pc s)).map (fun a => (bitsL s 6).getD a 0) := by decide +kernel
