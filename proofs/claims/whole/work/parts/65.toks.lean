/-! ===== tokens: names, words, kinds ===== -/
/-- letters, the last one first, as a number -/
def cN (q : Nat) : List Nat → Nat
  | [] => 0
  | d :: l => q * cN q l + d
def Let (l : List Nat) : Prop := ∀ d ∈ l, 1 ≤ d ∧ d ≤ 26
theorem cN_inj {q : Nat} (hq : 27 ≤ q) : ∀ l l', Let l → Let l' → cN q l = cN q l' → l = l'
  | [], [], _, _, _ => rfl
  | [], d :: l, _, h2, h => by
    have := h2 d (List.mem_cons_self ..)
    rw [cN, cN] at h
    omega
  | d :: l, [], h1, _, h => by
    have := h1 d (List.mem_cons_self ..)
    rw [cN, cN] at h
    omega
  | d :: l, d' :: l', h1, h2, h => by
    have a1 := h1 d (List.mem_cons_self ..)
    have a2 := h2 d' (List.mem_cons_self ..)
    rw [cN, cN] at h
    have e1 : (q * cN q l + d) % q = d := by rw [Nat.mul_add_mod, Nat.mod_eq_of_lt (by omega)]
    have e2 : (q * cN q l' + d') % q = d' := by rw [Nat.mul_add_mod, Nat.mod_eq_of_lt (by omega)]
    have e3 : d = d' := by rw [← e1, h, e2]
    subst e3
    have e4 : cN q l = cN q l' := Nat.eq_of_mul_eq_mul_left (show 0 < q by omega) (Nat.add_right_cancel h)
    rw [cN_inj hq l l' (fun x hx => h1 x (List.mem_cons_of_mem _ hx)) (fun x hx => h2 x (List.mem_cons_of_mem _ hx)) e4]
theorem cN_lt {q : Nat} (hq : 27 ≤ q) : ∀ l, Let l → cN q l < q ^ l.length
  | [], _ => by rw [cN]; exact Nat.pow_pos (by omega)
  | d :: l, h => by
    have a1 := h d (List.mem_cons_self ..)
    have ih := cN_lt hq l (fun x hx => h x (List.mem_cons_of_mem _ hx))
    rw [cN, List.length_cons, Nat.pow_succ, Nat.mul_comm (q ^ l.length) q]
    have : q * (cN q l + 1) ≤ q * q ^ l.length := Nat.mul_le_mul_left q ih
    rw [Nat.mul_add, Nat.mul_one] at this
    omega
def Nam (l : List Nat) : Prop := l.length ≤ 8 ∧ Let l
theorem Nam.lt {l : List Nat} (h : Nam l) : cN 32 l < 2 ^ 63 ∧ cN 27 l < 2 ^ 63 := by
  have h1 := cN_lt (q := 32) (by decide) l h.2
  have h2 := cN_lt (q := 27) (by decide) l h.2
  have h3 : 32 ^ l.length ≤ 32 ^ 8 := Nat.pow_le_pow_right (by decide) h.1
  have h4 : 27 ^ l.length ≤ 27 ^ 8 := Nat.pow_le_pow_right (by decide) h.1
  omega
/-- the words in the class's order, the last letter first -/
def wl (w : Nat) : List Nat := ([[11, 15, 15, 2], [25, 22, 1, 5, 8], [5, 12, 2, 1, 20], [5, 12, 9, 16], [25, 12, 6], [20, 1], [4, 5, 21, 12, 7], [14, 15], [6, 9], [14, 5, 8, 20], [5, 19, 12, 5], [7, 14, 15, 12], [4, 12, 15, 20], [12, 5, 22, 5, 12], [5, 3, 1, 12, 16], [5, 22, 15, 2, 1]] : List (List Nat)).getD w []
/-- the class's kinds as the model's -/
def mkk (k : Nat) : Nat := ([20, 21, 22, 23, 26, 24, 25, 27, 28, 29, 30, 31, 32, 33, 34, 35, 1, 2, 0, 3, 3, 3, 3, 3, 3, 3, 3, 3, 3, 3, 3, 3, 3, 3, 3, 3, 3, 3, 3, 3, 6, 7, 10, 8, 3, 9, 3, 15, 3, 3, 3, 3, 3, 3, 3, 3, 3, 3, 3, 4, 13, 5] : List Nat).getD k 3
def vk (k : Nat) : Bool := decide (k ≤ 19) || (([40, 41, 42, 43, 45, 47, 59, 60, 61] : List Nat).contains k)
theorem mkk_inj' : ∀ a, a < 62 → vk a = true → ∀ b, b < 62 → vk b = true → mkk a = mkk b → a = b := by decide +kernel
theorem vk_lt {k : Nat} (h : vk k = true) : k < 62 := by
  unfold vk at h
  simp at h
  omega
theorem mkk_lt : ∀ a, a < 62 → mkk a < 36 := by decide +kernel
theorem mkk_inj {a b : Nat} (ha : vk a = true) (hb : vk b = true) : mkk a = mkk b ↔ a = b := ⟨mkk_inj' a (vk_lt ha) ha b (vk_lt hb) hb, fun h => by rw [h]⟩
theorem wl_32 : ∀ w, w < 16 → wordsC w = jN (cN 32 (wl w)) := by decide +kernel
theorem wl_27 : ∀ w, w < 16 → 20 ≤ mkk w ∧ mkk w < 36 ∧ keysM (mkk w - 20) = jN (cN 27 (wl w)) := by decide +kernel
theorem wl_len : ∀ w, w < 16 → (wl w).length ≤ 5 ∧ ∀ d ∈ wl w, 1 ≤ d ∧ d ≤ 26 := by decide +kernel
theorem wl_all : ∀ k, k < 16 → ∃ w, w < 16 ∧ mkk w = 20 + k := by decide +kernel
/-- the kind of a row of letters -/
def wk (l : List Nat) : Nat := (fdn (fun w => decide (wl w = l)) 16).getD 16
theorem wl_inj : ∀ a, a < 16 → ∀ b, b < 16 → wl a = wl b → a = b := by decide +kernel
theorem wk_cases (l : List Nat) : (∃ w, w < 16 ∧ wl w = l ∧ wk l = w) ∨ ((∀ w, w < 16 → ¬ wl w = l) ∧ wk l = 16) := by
  unfold wk
  cases hq : fdn (fun w => decide (wl w = l)) 16 with
  | none =>
    right
    refine ⟨fun w hw h => ?_, rfl⟩
    have := fdn_some (q := fun w => decide (wl w = l)) (m := w) (decide_eq_true h) 16 hw (fun j h1 h2 => decide_eq_false (fun z => by
      have := wl_inj j h2 w hw (z.trans h.symm)
      omega))
    rw [hq] at this
    cases this
  | some w =>
    left
    obtain ⟨h1, h2⟩ := fdn_lt _ _ hq
    exact ⟨w, h1, of_decide_eq_true h2, rfl⟩
theorem word_c {l : List Nat} (hl : Nam l) {w : Nat} (hw : w < 16) : (wordsC w = jN (cN 32 l)) ↔ wl w = l := by
  have hw2 := wl_len w hw
  have hn : Nam (wl w) := ⟨by omega, hw2.2⟩
  rw [wl_32 w hw, jN_eq hn.lt.1 hl.lt.1]
  exact ⟨cN_inj (by decide) _ _ hn.2 hl.2, fun h => by rw [h]⟩
theorem word_m {l : List Nat} (hl : Nam l) {w : Nat} (hw : w < 16) : (keysM (mkk w - 20) = jN (cN 27 l)) ↔ wl w = l := by
  have hw2 := wl_len w hw
  have hn : Nam (wl w) := ⟨by omega, hw2.2⟩
  rw [(wl_27 w hw).2.2, jN_eq hn.lt.2 hl.lt.2]
  exact ⟨cN_inj (by decide) _ _ hn.2 hl.2, fun h => by rw [h]⟩
/-- the model's look through its keys -/
theorem keys_fdn {l : List Nat} (hl : Nam l) : (fdn (fun k => decide (keysM k = jN (cN 27 l))) 16).map (fun k => 20 + k) = if wk l = 16 then none else some (mkk (wk l)) := by
  rcases wk_cases l with ⟨w, h1, h2, h3⟩ | ⟨h1, h2⟩
  · obtain ⟨a1, a2, a3⟩ := wl_27 w h1
    have e : fdn (fun k => decide (keysM k = jN (cN 27 l))) 16 = some (mkk w - 20) := by
      refine fdn_some (decide_eq_true ((word_m hl h1).2 h2)) 16 (by omega) (fun j j1 j2 => decide_eq_false (fun z => ?_))
      obtain ⟨w', g1, g2⟩ := wl_all j j2
      have e2 : j = mkk w' - 20 := by omega
      rw [e2] at z
      have := (word_m hl g1).1 z
      have := wl_inj w' g1 w h1 (this.trans h2.symm)
      subst this
      omega
    rw [e, h3, if_neg (by omega)]
    show some (20 + (mkk w - 20)) = _
    congr 1
    omega
  · have e : fdn (fun k => decide (keysM k = jN (cN 27 l))) 16 = none := by
      refine fdn_none 16 (fun j hj => decide_eq_false (fun z => ?_))
      obtain ⟨w', g1, g2⟩ := wl_all j hj
      have e2 : j = mkk w' - 20 := by omega
      rw [e2] at z
      exact h1 w' g1 ((word_m hl g1).1 z)
    rw [e, if_pos h2]
    rfl
/-! bytes -/
def isL (c : Nat) : Bool := decide (97 ≤ c ∧ c ≤ 122)
def isD (c : Nat) : Bool := decide (48 ≤ c ∧ c ≤ 57)
def isB (c : Nat) : Bool := decide (c = 9 ∨ c = 10 ∨ c = 13 ∨ c = 32)
def sgk (c : Nat) : Nat := if (([40, 41, 42, 43, 45, 47, 59, 60, 61] : List Nat).contains c) then c else 19
def ltr (f : Nat → Nat) (i : Nat) : Nat → List Nat
  | 0 => []
  | k + 1 => (f (i + k) - 96) :: ltr f i k
def dgv (f : Nat → Nat) (i : Nat) : Nat → Nat
  | 0 => 0
  | k + 1 => 10 * dgv f i k + (f (i + k) - 48)
def pr (f : Nat → Nat) (i c : Nat) : Bool := if isL (f i) then isL c else if isD (f i) then isD c else false
def RunE (f : Nat → Nat) (L i e : Nat) : Prop := i < e ∧ e ≤ L ∧ (∀ j, i < j → j < e → pr f i (f j) = true) ∧ (e < L → pr f i (f e) = false)
theorem run_ex (f : Nat → Nat) {L i : Nat} (hi : i < L) : ∃ e, RunE f L i e := by
  have key : ∀ k e, e + k = L → i < e → (∀ j, i < j → j < e → pr f i (f j) = true) → ∃ e, RunE f L i e := by
    intro k
    induction k with
    | zero => intro e h1 h2 h3; exact ⟨e, h2, by omega, h3, fun h => absurd h (by omega)⟩
    | succ k ih =>
      intro e h1 h2 h3
      cases hq : pr f i (f e) with
      | false => exact ⟨e, h2, by omega, h3, fun _ => hq⟩
      | true =>
        refine ih (e + 1) (by omega) (by omega) (fun j j1 j2 => ?_)
        by_cases c : j = e
        · rw [c]; exact hq
        · exact h3 j j1 (by omega)
  exact key (L - (i + 1)) (i + 1) (by omega) (by omega) (fun j j1 j2 => absurd j2 (by omega))
/-- kind, value and letters of the token from i to e -/
def tokAt (f : Nat → Nat) (i e : Nat) : Nat × Nat × List Nat := if isL (f i) then (if e - i ≤ 8 then (wk (ltr f i (e - i)), 0, ltr f i (e - i)) else (19, 0, [])) else if isD (f i) then (if e - i ≤ 4 then (17, dgv f i (e - i), []) else (19, 0, [])) else (sgk (f i), 0, [])
theorem ltr_len (f : Nat → Nat) (i : Nat) : ∀ k, (ltr f i k).length = k
  | 0 => rfl
  | k + 1 => by rw [ltr, List.length_cons, ltr_len f i k]
theorem ltr_let {f : Nat → Nat} {i : Nat} : ∀ k, (∀ j, j < k → isL (f (i + j)) = true) → Let (ltr f i k)
  | 0, _ => fun d hd => (by cases hd)
  | k + 1, h => fun d hd => by
    rw [ltr] at hd
    rcases List.mem_cons.1 hd with rfl | hd
    · have := of_decide_eq_true (h k (by omega))
      omega
    · exact ltr_let k (fun j hj => h j (by omega)) d hd
theorem dgv_lt {f : Nat → Nat} {i : Nat} : ∀ k, (∀ j, j < k → isD (f (i + j)) = true) → dgv f i k < 10 ^ k
  | 0, _ => by rw [dgv]; decide
  | k + 1, h => by
    have ih := dgv_lt k (fun j hj => h j (by omega))
    have := of_decide_eq_true (h k (by omega))
    rw [dgv, Nat.pow_succ]
    omega
theorem RunE.let {f : Nat → Nat} {L i e : Nat} (h : RunE f L i e) (hl : isL (f i) = true) : ∀ j, j < e - i → isL (f (i + j)) = true := fun j hj => by
  by_cases c : j = 0
  · rw [c]; exact hl
  · have := h.2.2.1 (i + j) (by omega) (by omega)
    unfold pr at this
    rw [if_pos hl] at this
    exact this
theorem RunE.dig {f : Nat → Nat} {L i e : Nat} (h : RunE f L i e) (hn : isL (f i) = false) (hl : isD (f i) = true) : ∀ j, j < e - i → isD (f (i + j)) = true := fun j hj => by
  by_cases c : j = 0
  · rw [c]; exact hl
  · have := h.2.2.1 (i + j) (by omega) (by omega)
    unfold pr at this
    rw [if_neg (by rw [hn]; decide), if_pos hl] at this
    exact this
theorem RunE.one {f : Nat → Nat} {L i e : Nat} (h : RunE f L i e) (hn : isL (f i) = false) (hd : isD (f i) = false) : e = i + 1 := by
  apply Classical.byContradiction
  intro hne
  have h0 := h.1
  have := h.2.2.1 (i + 1) (by omega) (by omega)
  unfold pr at this
  rw [if_neg (by rw [hn]; decide), if_neg (by rw [hd]; decide)] at this
  cases this
theorem sgk_vk (c : Nat) : vk (sgk c) = true := by
  unfold sgk
  split
  · rename_i h
    unfold vk
    rw [h, Bool.or_true]
  · rfl
theorem wk_le (l : List Nat) : wk l ≤ 16 := by
  rcases wk_cases l with ⟨w, h1, _, h3⟩ | ⟨_, h2⟩
  · omega
  · omega
theorem tok_vk (f : Nat → Nat) (i e : Nat) : vk (tokAt f i e).1 = true := by
  unfold tokAt
  split
  · split
    · have := wk_le (ltr f i (e - i))
      unfold vk
      rw [decide_eq_true (show wk (ltr f i (e - i)) ≤ 19 by omega)]
      rfl
    · rfl
  · split
    · split
      · rfl
      · rfl
    · exact sgk_vk _
theorem tok_n18 (f : Nat → Nat) (i e : Nat) : ¬ (tokAt f i e).1 = 18 := by
  unfold tokAt
  split
  · split
    · have := wk_le (ltr f i (e - i))
      show ¬ wk (ltr f i (e - i)) = 18
      omega
    · decide
  · split
    · split
      · show ¬ (17 : Nat) = 18
        decide
      · decide
    · show ¬ sgk (f i) = 18
      unfold sgk
      split
      · rename_i h
        simp at h
        omega
      · decide
