/-! ===== what is reckoned of a pile ===== -/
section LITS
variable (F : Nat → Int32) (A : Nat → Nat → Int32) (B : Nat → Nat → Int64)
theorem ma_30_18 : aI (mkM F A B) 2 30 18 = some (A 30 18) := ma_30 F A B (j := 18) (by decide)
theorem ms_30_18 (x : Int32) : sI (mkM F A B) 2 30 18 x = some (mkM F (va_up A 30 (upd (A 30) 18 (hs_nar 2 x))) B) := ms_30 F A B (j := 18) (by decide) x
theorem ma_31_18 : aI (mkM F A B) 2 31 18 = some (A 31 18) := ma_31 F A B (j := 18) (by decide)
theorem ms_31_18 (x : Int32) : sI (mkM F A B) 2 31 18 x = some (mkM F (va_up A 31 (upd (A 31) 18 (hs_nar 2 x))) B) := ms_31 F A B (j := 18) (by decide) x
theorem ma_28_0 : aI (mkM F A B) 2 28 0 = some (A 28 0) := ma_28 F A B (j := 0) (by decide)
theorem ms_28_0 (x : Int32) : sI (mkM F A B) 2 28 0 x = some (mkM F (va_up A 28 (upd (A 28) 0 (hs_nar 2 x))) B) := ms_28 F A B (j := 0) (by decide) x
theorem ma_28_1 : aI (mkM F A B) 2 28 1 = some (A 28 1) := ma_28 F A B (j := 1) (by decide)
theorem ms_28_1 (x : Int32) : sI (mkM F A B) 2 28 1 x = some (mkM F (va_up A 28 (upd (A 28) 1 (hs_nar 2 x))) B) := ms_28 F A B (j := 1) (by decide) x
theorem ma_28_2 : aI (mkM F A B) 2 28 2 = some (A 28 2) := ma_28 F A B (j := 2) (by decide)
theorem ms_28_2 (x : Int32) : sI (mkM F A B) 2 28 2 x = some (mkM F (va_up A 28 (upd (A 28) 2 (hs_nar 2 x))) B) := ms_28 F A B (j := 2) (by decide) x
theorem ma_28_3 : aI (mkM F A B) 2 28 3 = some (A 28 3) := ma_28 F A B (j := 3) (by decide)
theorem ms_28_3 (x : Int32) : sI (mkM F A B) 2 28 3 x = some (mkM F (va_up A 28 (upd (A 28) 3 (hs_nar 2 x))) B) := ms_28 F A B (j := 3) (by decide) x
theorem ma_28_4 : aI (mkM F A B) 2 28 4 = some (A 28 4) := ma_28 F A B (j := 4) (by decide)
theorem ms_28_4 (x : Int32) : sI (mkM F A B) 2 28 4 x = some (mkM F (va_up A 28 (upd (A 28) 4 (hs_nar 2 x))) B) := ms_28 F A B (j := 4) (by decide) x
theorem ma_42_0 : aI (mkM F A B) 4 42 0 = some (A 42 0) := ma_42 F A B (j := 0) (by decide)
theorem ms_42_0 (x : Int32) : sI (mkM F A B) 4 42 0 x = some (mkM F (va_up A 42 (upd (A 42) 0 (hs_nar 4 x))) B) := ms_42 F A B (j := 0) (by decide) x
theorem ma_42_1 : aI (mkM F A B) 4 42 1 = some (A 42 1) := ma_42 F A B (j := 1) (by decide)
theorem ms_42_1 (x : Int32) : sI (mkM F A B) 4 42 1 x = some (mkM F (va_up A 42 (upd (A 42) 1 (hs_nar 4 x))) B) := ms_42 F A B (j := 1) (by decide) x
theorem ma_42_2 : aI (mkM F A B) 4 42 2 = some (A 42 2) := ma_42 F A B (j := 2) (by decide)
theorem ms_42_2 (x : Int32) : sI (mkM F A B) 4 42 2 x = some (mkM F (va_up A 42 (upd (A 42) 2 (hs_nar 4 x))) B) := ms_42 F A B (j := 2) (by decide) x
theorem ma_36_0 : aI (mkM F A B) 2 36 0 = some (A 36 0) := ma_36 F A B (j := 0) (by decide)
theorem ms_36_0 (x : Int32) : sI (mkM F A B) 2 36 0 x = some (mkM F (va_up A 36 (upd (A 36) 0 (hs_nar 2 x))) B) := ms_36 F A B (j := 0) (by decide) x
end LITS
theorem ca_42_0 {F A : Nat → Nat → Int32} {B : Nat → Nat → Int64} {r : Nat → Nat} {c : Nat} (h : c_kd c = 42) : aI (mkC F A B r) 2 c 0 = some (A c 0) := ca_42 (j := 0) h (by decide)
theorem cs_42_0 {F A : Nat → Nat → Int32} {B : Nat → Nat → Int64} {r : Nat → Nat} {c : Nat} (h : c_kd c = 42) (x : Int32) : sI (mkC F A B r) 2 c 0 x = some (mkC F (va_up A c (upd (A c) 0 (hs_nar 2 x))) B r) := cs_42 (j := 0) h (by decide) x
theorem nh4 {x : Int32} (h : x = 0 ∨ x = 1) : hs_nar 4 x = x := by
  rcases h with rfl | rfl <;> rfl
abbrev pB (P : AP) : Nat → Nat := P.2.1
abbrev pP (P : AP) : Nat → Int := P.2.2.1
abbrev pG (P : AP) : Nat → Int32 := P.2.2.2
def BigP (nb : Nat) (P : AP) : Prop := P.1 ≤ 6 ∧ (∀ i, i < P.1 → pB P i < nb) ∧ (∀ i j, i < P.1 → j < P.1 → pB P i = pB P j → i = j) ∧ (∀ i, i < P.1 → -2199 ≤ pP P i ∧ pP P i ≤ 2199) ∧ ∀ i, i < P.1 → pG P i = 0 ∨ pG P i = 1
theorem GoodP.big {nb : Nat} {P : AP} (h : GoodP nb P) : BigP nb P := ⟨h.1, h.2.1, h.2.2.1, fun i hi => by have := h.2.2.2.1 i hi; simp only [pP]; omega, h.2.2.2.2⟩
def cl (v : Int32) : Int := if v < 1 then 1 else if 99 < v then 99 else v.toInt
theorem cl_b (v : Int32) : 1 ≤ cl v ∧ cl v ≤ 99 := by
  unfold cl
  split
  · omega
  · split
    · omega
    · rename_i h1 h2
      rw [Int32.lt_iff_toInt_lt] at h1 h2
      have e1 : (1 : Int32).toInt = 1 := by decide
      have e2 : (99 : Int32).toInt = 99 := by decide
      omega
theorem cl_iI (v : Int32) : iI (cl v) = if v < 1 then 1 else if 99 < v then 99 else v := by
  unfold cl
  split
  · rfl
  · split
    · rfl
    · exact Int32.ofInt_toInt v
def wg (T : TD) (tr : Nat → Int) (P : AP) (i : Nat) : Int := if 0 < tr (pB P i) then tr (pB P i) else match tLw T (pB P i) with
  | none => tWt T (pB P i)
  | some f => cl (f (lawV (tLg T (pB P i)) (tWt T (pB P i)) i (pP P i) (P.1 - 1 - i)))
def Tr (tr : Nat → Int) : Prop := ∀ b, 0 ≤ tr b ∧ tr b ≤ 6
theorem wg_b {T : TD} {tr : Nat → Int} {P : AP} {i : Nat} (hT : GoodT T) (ht : Tr tr) (hb : pB P i < tNb T) : 1 ≤ wg T tr P i ∧ wg T tr P i ≤ 99 := by
  have h1 := ht (pB P i)
  have h2 := hT.2.1 _ hb
  unfold wg
  split
  · omega
  · split
    · omega
    · exact cl_b _
theorem flyL_b {T : TD} (hT : GoodT T) (b : Nat) : ∀ m, m ≤ tNf T → 0 ≤ flyL T b m ∧ flyL T b m ≤ 99 * m
  | 0, _ => by simp [flyL]
  | m + 1, h => by
    have h1 := flyL_b hT b m (by omega)
    have h2 := hT.2.2.2.2 m (by omega)
    simp only [flyL]
    split <;> omega
theorem flyT_b {T : TD} (hT : GoodT T) (b : Nat) : ∀ m, m ≤ tNf T → 0 ≤ flyT T b m ∧ flyT T b m ≤ 9801 * m
  | 0, _ => by simp [flyT]
  | m + 1, h => by
    have h1 := flyT_b hT b m (by omega)
    have h2 := hT.2.2.2.2 m (by omega)
    have h3 : 0 ≤ tFw T m * tFa T m := Int.mul_nonneg (by omega) (by omega)
    have h4 : tFw T m * tFa T m ≤ 99 * 99 := Int.mul_le_mul (by omega) (by omega) (by omega) (by omega)
    simp only [flyT]
    split <;> omega
theorem mul_b {a b M N : Int} (ha : -M ≤ a ∧ a ≤ M) (hb : -N ≤ b ∧ b ≤ N) (hN : 0 ≤ N) : -(M * N) ≤ a * b ∧ a * b ≤ M * N := by
  have hM : 0 ≤ M := by omega
  have h1 := Int.mul_nonneg (show 0 ≤ M - a by omega) (show 0 ≤ N - b by omega)
  have h2 := Int.mul_nonneg (show 0 ≤ M - a by omega) (show 0 ≤ N + b by omega)
  have h3 := Int.mul_nonneg (show 0 ≤ M + a by omega) (show 0 ≤ N - b by omega)
  have h4 := Int.mul_nonneg (show 0 ≤ M + a by omega) (show 0 ≤ N + b by omega)
  simp only [Int.sub_mul, Int.mul_sub, Int.add_mul, Int.mul_add] at h1 h2 h3 h4
  constructor <;> omega
def gl (T : TD) (tr : Nat → Int) (mb mw : Int) (P : AP) (i : Nat) : Int := wg T tr P i + flyL T (pB P i) (tNf T) + (if mb = (pB P i : Int) then mw else 0)
def gm (T : TD) (tr : Nat → Int) (mb mw ma : Int) (P : AP) (i : Nat) : Int := wg T tr P i * (2 * pP P i + tLg T (pB P i)) + 2 * (pP P i * flyL T (pB P i) (tNf T) + flyT T (pB P i) (tNf T)) + (if mb = (pB P i : Int) then 2 * mw * (pP P i + ma) else 0)
def sumD (g : Nat → Int) (n : Nat) : Nat → Int
  | 0 => 0
  | k + 1 => sumD g n k + g (n - (k + 1))
theorem sumD_b {g : Nat → Int} {n : Nat} {L U : Int} (h : ∀ i, i < n → L ≤ g i ∧ g i ≤ U) : ∀ k, k ≤ n → L * k ≤ sumD g n k ∧ sumD g n k ≤ U * k
  | 0, _ => by simp [sumD]
  | k + 1, hk => by
    have h1 := sumD_b h k (by omega)
    have h2 := h (n - (k + 1)) (by omega)
    simp only [sumD]
    rw [Int.natCast_add, Int.mul_add, Int.mul_add]
    simp only [Int.natCast_one, Int.mul_one]
    omega
