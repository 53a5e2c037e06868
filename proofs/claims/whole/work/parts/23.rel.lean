/-! ===== whole numbers as int and long ===== -/
def iI (x : Int) : Int32 := Int32.ofInt x
def jJ (x : Int) : Int64 := Int64.ofInt x
theorem iI_nI (n : Nat) : nI n = iI (n : Int) := rfl
theorem iI_add (a b : Int) : iI a + iI b = iI (a + b) := (Int32.ofInt_add a b).symm
theorem iI_sub (a b : Int) : iI a - iI b = iI (a - b) := (Int32.ofInt_sub a b).symm
theorem iI_mul (a b : Int) : iI a * iI b = iI (a * b) := (Int32.ofInt_mul a b).symm
theorem iI_neg (a : Int) : -iI a = iI (-a) := (Int32.ofInt_neg a).symm
theorem jJ_add (a b : Int) : jJ a + jJ b = jJ (a + b) := (Int64.ofInt_add a b).symm
theorem jJ_sub (a b : Int) : jJ a - jJ b = jJ (a - b) := (Int64.ofInt_sub a b).symm
theorem jJ_mul (a b : Int) : jJ a * jJ b = jJ (a * b) := (Int64.ofInt_mul a b).symm
theorem jJ_neg (a : Int) : -jJ a = jJ (-a) := (Int64.ofInt_neg a).symm
abbrev in32 (x : Int) : Prop := -2147483648 ≤ x ∧ x < 2147483648
abbrev in64 (x : Int) : Prop := -9223372036854775808 ≤ x ∧ x < 9223372036854775808
theorem iI_toInt {x : Int} (h : in32 x) : (iI x).toInt = x := Int32.toInt_ofInt_of_le h.1 h.2
theorem jJ_toInt {x : Int} (h : in64 x) : (jJ x).toInt = x := Int64.toInt_ofInt_of_le h.1 h.2
theorem iI_le {a b : Int} (ha : in32 a) (hb : in32 b) : iI a ≤ iI b ↔ a ≤ b := by rw [Int32.le_iff_toInt_le, iI_toInt ha, iI_toInt hb]
theorem iI_lt {a b : Int} (ha : in32 a) (hb : in32 b) : iI a < iI b ↔ a < b := by rw [Int32.lt_iff_toInt_lt, iI_toInt ha, iI_toInt hb]
theorem iI_eq {a b : Int} (ha : in32 a) (hb : in32 b) : iI a = iI b ↔ a = b := by rw [← Int32.toInt_inj, iI_toInt ha, iI_toInt hb]
theorem jJ_le {a b : Int} (ha : in64 a) (hb : in64 b) : jJ a ≤ jJ b ↔ a ≤ b := by rw [Int64.le_iff_toInt_le, jJ_toInt ha, jJ_toInt hb]
theorem jJ_lt {a b : Int} (ha : in64 a) (hb : in64 b) : jJ a < jJ b ↔ a < b := by rw [Int64.lt_iff_toInt_lt, jJ_toInt ha, jJ_toInt hb]
theorem jJ_eq {a b : Int} (ha : in64 a) (hb : in64 b) : jJ a = jJ b ↔ a = b := by rw [← Int64.toInt_inj, jJ_toInt ha, jJ_toInt hb]
theorem iI_jJ {x : Int} (h : in32 x) : (iI x).toInt64 = jJ x := by
  rw [← Int64.toInt_inj, Int32.toInt_toInt64, iI_toInt h, jJ_toInt ⟨by have := h.1; omega, by have := h.2; omega⟩]
theorem iI_of (x : Int32) : ∃ a : Int, in32 a ∧ x = iI a := ⟨x.toInt, ⟨Int32.le_toInt x, Int32.toInt_lt x⟩, (Int32.ofInt_toInt x).symm⟩
theorem jJ_iI {x : Int} (h : in32 x) : (jJ x).toInt32 = iI x := by
  rw [← iI_jJ h]
  exact Int32.toInt32_toInt64 _
/-! ===== piles and texts, abstractly ===== -/
abbrev AP : Type := Nat × (Nat → Nat) × (Nat → Int) × (Nat → Int32)
def GoodP (nb : Nat) (P : AP) : Prop := P.1 ≤ 6 ∧ (∀ i, i < P.1 → P.2.1 i < nb) ∧ (∀ i j, i < P.1 → j < P.1 → P.2.1 i = P.2.1 j → i = j) ∧ (∀ i, i < P.1 → -999 ≤ P.2.2.1 i ∧ P.2.2.1 i ≤ 999) ∧ ∀ i, i < P.1 → P.2.2.2 i = 0 ∨ P.2.2.2 i = 1
def MPile (A : Nat → Nat → Int32) (c o : Nat) (P : AP) : Prop := A c (o + 18) = nI P.1 ∧ ∀ i, i < P.1 → A c (o + i) = nI (P.2.1 i) ∧ A c (o + 6 + i) = iI (P.2.2.1 i) ∧ A c (o + 12 + i) = P.2.2.2 i
def CPile (F A : Nat → Nat → Int32) (h : Nat) (P : AP) : Prop := F h 0 = nI P.1 ∧ ∀ i, i < P.1 → A (h + 1) i = nI (P.2.1 i) ∧ A (h + 2) i = iI (P.2.2.1 i) ∧ A (h + 3) i = P.2.2.2 i
/-- where a pile of the class lies -/
def PA (h : Nat) : Prop := c_kd h = 5 ∧ c_kd (h + 1) = 35 ∧ c_kd (h + 2) = 35 ∧ c_kd (h + 3) = 38
def TA (t : Nat) : Prop := c_kd t = 10 ∧ c_kd (t + 1) = 34 ∧ c_kd (t + 2) = 35 ∧ c_kd (t + 3) = 35 ∧ c_kd (t + 4) = 35 ∧ c_kd (t + 5) = 36 ∧ c_kd (t + 6) = 36 ∧ c_kd (t + 7) = 37 ∧ c_kd (t + 8) = 35 ∧ c_kd (t + 9) = 35 ∧ c_kd (t + 10) = 35 ∧ PA (t + 11)
/-- a text: how many books, long, weight, table, how many flies, their books, weights, places, the laws -/
abbrev TD : Type := Nat × (Nat → Int) × (Nat → Int) × Int × Nat × (Nat → Nat) × (Nat → Int) × (Nat → Int) × (Nat → Option ((Nat → Int32) → Int32))
abbrev tNb (T : TD) : Nat := T.1
abbrev tLg (T : TD) : Nat → Int := T.2.1
abbrev tWt (T : TD) : Nat → Int := T.2.2.1
abbrev tTb (T : TD) : Int := T.2.2.2.1
abbrev tNf (T : TD) : Nat := T.2.2.2.2.1
abbrev tFb (T : TD) : Nat → Nat := T.2.2.2.2.2.1
abbrev tFw (T : TD) : Nat → Int := T.2.2.2.2.2.2.1
abbrev tFa (T : TD) : Nat → Int := T.2.2.2.2.2.2.2.1
abbrev tLw (T : TD) : Nat → Option ((Nat → Int32) → Int32) := T.2.2.2.2.2.2.2.2
def GoodT (T : TD) : Prop := tNb T ≤ 6 ∧ (∀ b, b < tNb T → 1 ≤ tLg T b ∧ tLg T b ≤ 99 ∧ 1 ≤ tWt T b ∧ tWt T b ≤ 20) ∧ (1 ≤ tTb T ∧ tTb T ≤ 999) ∧ tNf T ≤ 6 ∧ ∀ f, f < tNf T → tFb T f < tNb T ∧ 0 ≤ tFw T f ∧ tFw T f ≤ 99 ∧ 0 ≤ tFa T f ∧ tFa T f ≤ 99
/-- what the first m flies weigh on book b, and how they turn it -/
def flyL (T : TD) (b : Nat) : Nat → Int
  | 0 => 0
  | m + 1 => flyL T b m + (if tFb T m = b then tFw T m else 0)
def flyT (T : TD) (b : Nat) : Nat → Int
  | 0 => 0
  | m + 1 => flyT T b m + (if tFb T m = b then tFw T m * tFa T m else 0)
/-- a law's five variables -/
def lawV (lg wt : Int) (lev : Nat) (pl : Int) (ab : Nat) : Nat → Int32
  | 0 => iI lg
  | 1 => iI wt
  | 2 => nI lev
  | 3 => iI pl
  | _ => nI ab
def v5 (g : Nat → Int32) : Nat → Int32 := fun k => g (min k 4)
/-- the part of the rows of laws that belongs to a side -/
def MReg (lv c j : Nat) : Prop := (c ≤ 19 → 6 * lv ≤ j ∧ j < 6 * lv + 6) ∧ (20 ≤ c → c ≤ 24 → 130 * lv ≤ j ∧ j < 130 * lv + 130) ∧ (25 ≤ c → 420 * lv ≤ j ∧ j < 420 * lv + 420)
/-- the model's law of the book at place at: it answers f of its variables -/
def LawM (A : Nat → Nat → Int32) (at_ : Nat) (f : (Nat → Int32) → Int32) : Prop := ¬ A 18 at_ = A 19 at_ ∧ ∀ (F : Nat → Int32) (A' : Nat → Nat → Int32) (B : Nat → Nat → Int64), (∀ c j, 18 ≤ c → c ≤ 26 → MReg (at_ / 6) c j → A' c j = A c j) → ∃ (z : Int32) (g : Nat → Int32), fX12_tellsBy 0 (nI at_) (mkM F A' B) = some (f (v5 (A' 28)), mkM (upd F 46 z) (va_up A' 29 g) B)
/-- the class's law, from st on -/
def LawC (F A : Nat → Nat → Int32) (t st : Nat) (f : (Nat → Int32) → Int32) : Prop := ∀ (F' A' : Nat → Nat → Int32) (B : Nat → Nat → Int64) (r : Nat → Nat) (h lev : Nat) (P : AP) (lg wt : Int), F' t 5 = F t 5 → A' (t + 5) = A (t + 5) → A' (t + 6) = A (t + 6) → PA h → CPile F' A' h P → P.1 ≤ 6 → lev < P.1 → P.2.1 lev < 6 → A' (t + 2) (P.2.1 lev) = iI lg → A' (t + 3) (P.2.1 lev) = iI wt → ∃ g : Nat → Int32, fX10_runLaw t (nI st) h (nI lev) (mkC F' A' B r) = some (f (lawV lg wt lev (P.2.2.1 lev) (P.1 - 1 - lev)), mkC F' (va_up A' (t + 7) g) B r)
def MText (A : Nat → Nat → Int32) (lv : Nat) (T : TD) : Prop := A 9 lv = nI (tNb T) ∧ (∀ b, b < tNb T → A 10 (6 * lv + b) = iI (tLg T b) ∧ A 11 (6 * lv + b) = iI (tWt T b)) ∧ A 12 lv = iI (tTb T) ∧ A 13 lv = nI (tNf T) ∧ (∀ f, f < tNf T → A 14 (6 * lv + f) = iI (tFw T f) ∧ A 15 (6 * lv + f) = nI (tFb T f) ∧ A 16 (6 * lv + f) = iI (tFa T f)) ∧
  ∀ b, b < tNb T → match tLw T b with
    | none => A 18 (6 * lv + b) = A 19 (6 * lv + b)
    | some f => LawM A (6 * lv + b) f
def CText (F A : Nat → Nat → Int32) (t : Nat) (T : TD) : Prop := F t 0 = nI (tNb T) ∧ (∀ b, b < tNb T → A (t + 2) b = iI (tLg T b) ∧ A (t + 3) b = iI (tWt T b)) ∧ F t 9 = iI (tTb T) ∧ F t 10 = nI (tNf T) ∧ (∀ f, f < tNf T → A (t + 8) f = nI (tFb T f)) ∧ (∀ b, b < tNb T → A (t + 9) b = iI (flyL T b (tNf T)) ∧ A (t + 10) b = iI (flyT T b (tNf T))) ∧
  ∀ b, b < tNb T → match tLw T b with
    | none => A (t + 4) b = -1
    | some f => ∃ st, st < 400 ∧ A (t + 4) b = nI st ∧ LawC F A t st f
/-- the pile before the last thing done, told by what was done -/
def Undone (kind what amount glue : Int32) (P Q : AP) : Prop :=
  (kind = 1 ∧ P.1 = Q.1 + 1 ∧ ∀ i, i < Q.1 → P.2.1 i = Q.2.1 i ∧ P.2.2.1 i = Q.2.2.1 i ∧ P.2.2.2 i = Q.2.2.2 i) ∨
  (kind = 2 ∧ Q.1 = P.1 + 1 ∧ (∀ i, i < P.1 → P.2.1 i = Q.2.1 i ∧ P.2.2.1 i = Q.2.2.1 i ∧ P.2.2.2 i = Q.2.2.2 i) ∧ what = nI (Q.2.1 P.1) ∧ amount = iI (Q.2.2.1 P.1) ∧ glue = Q.2.2.2 P.1) ∨
  (kind = 3 ∧ P.1 = Q.1 ∧ ∃ (lev : Nat) (by_ : Int), what = nI lev ∧ amount = iI by_ ∧ lev < P.1 ∧ -1998 ≤ by_ ∧ by_ ≤ 1998 ∧ ∀ i, i < P.1 → P.2.1 i = Q.2.1 i ∧ P.2.2.1 i = Q.2.2.1 i + (if lev ≤ i then by_ else 0) ∧ P.2.2.2 i = Q.2.2.2 i)
/-- the class's ring of what was done: the newest at place w, u of them; ps j: the pile before the j-th, ps u the pile now -/
def Ring (A : Nat → Nat → Int32) (w u : Nat) (ps : Nat → AP) : Prop := ∀ j, j < u → Undone (A 50 ((w + 50 - (u - 1 - j)) % 50)) (A 51 ((w + 50 - (u - 1 - j)) % 50)) (A 52 ((w + 50 - (u - 1 - j)) % 50)) (A 53 ((w + 50 - (u - 1 - j)) % 50)) (ps (j + 1)) (ps j)
/-- a pile seen, as the class keeps it -/
def Sight (F A : Nat → Nat → Int32) (T : TD) (k : Nat) (P : AP) (stood : Int32) : Prop := F k 0 = stood ∧ (stood = 0 ∨ stood = 1) ∧ F k 1 = nI P.1 ∧ ∀ i, i < P.1 → A (k + 1) i = nI (P.2.1 i) ∧ A (k + 2) i = iI (2 * P.2.2.1 i + tLg T (P.2.1 i)) ∧ A (k + 3) i = iI (flyL T (P.2.1 i) (tNf T)) ∧ A (k + 4) i = iI (2 * (P.2.2.1 i * flyL T (P.2.1 i) (tNf T) + flyT T (P.2.1 i) (tNf T))) ∧
  A (k + 5) i = iI (2 * max (if i = 0 then -tTb T else P.2.2.1 (i - 1)) (P.2.2.1 i)) ∧ A (k + 6) i = iI (2 * min (if i = 0 then 0 else P.2.2.1 (i - 1) + tLg T (P.2.1 (i - 1))) (P.2.2.1 i + tLg T (P.2.1 i))) ∧ A (k + 7) i = (if i = 0 then 0 else P.2.2.2 i)
def Tape (F : Nat → Int32) (A : Nat → Nat → Int32) (Fc Ac : Nat → Nat → Int32) : Prop := ∃ n, n ≤ 2000 ∧ F 2 = nI n ∧ Fc 0 1 = nI n ∧ ∀ i, i < n → Ac 1 i = A 1 i &&& 255
def keysM : Nat → Int64 := fun k => [50717, 4351291, 10650290, 321818, 47, 3971731, 4723, 419, 249, 399641, 107681, 247516, 404923, 6491892, 8740067, 582341].getD k 0
def wordsC : Nat → Int64 := fun k => [81387, 8554201, 21006725, 533893, 6553, 52, 7754916, 494, 294, 663726, 176741, 409031, 671108, 12769452, 17171557, 1130181].getD k 0
/-- what lasts from call to call, the tape apart -/
def Core (F : Nat → Int32) (A : Nat → Nat → Int32) (B : Nat → Nat → Int64) (Fc Ac : Nat → Nat → Int32) (Bc : Nat → Nat → Int64) (rc : Nat → Nat) (t lv : Nat) (T : TD) (u w : Nat) (ps : Nat → AP) (n7 : Nat) (sp : Nat → AP) : Prop :=
  (((t = 7 ∧ rc 1 = 22) ∨ (t = 22 ∧ rc 1 = 7)) ∧ rc 0 = t ∧ lv ≤ 1 ∧ F 18 = nI lv ∧ Fc 37 4 = F 17) ∧
  (GoodT T ∧ MText A lv T ∧ CText Fc Ac t T) ∧
  (u ≤ 50 ∧ w < 50 ∧ F 55 = nI u ∧ Fc 49 0 = nI u ∧ Fc 49 1 = nI w ∧ (∀ j, j ≤ u → GoodP (tNb T) (ps j)) ∧ (∀ j, j < u → MPile A 35 (20 * j) (ps j)) ∧ MPile A 30 0 (ps u) ∧ CPile Fc Ac 38 (ps u) ∧ Ring Ac w u ps) ∧
  (∀ s, s < 3 → A 42 s = Ac 56 s ∧ (A 42 s = 0 ∨ A 42 s = 1) ∧ (A 42 s = 1 → ∃ P, GoodP (tNb T) P ∧ MPile A 43 (20 * s) P ∧ CPile Fc Ac (57 + 4 * s) P)) ∧
  (n7 ≤ 6 ∧ F 62 = nI n7 ∧ Fc 69 0 = nI n7 ∧ ∀ j, j < n7 → GoodP (tNb T) (sp j) ∧ MPile A 38 (20 * j) (sp j) ∧ Sight Fc Ac T (75 + 8 * j) (sp j) (A 39 j)) ∧
  (B 7 = keysM ∧ Bc 3 = wordsC)
def Rel (σc σm : Sto) : Prop := ∃ (F : Nat → Int32) (A : Nat → Nat → Int32) (B : Nat → Nat → Int64) (Fc Ac : Nat → Nat → Int32) (Bc : Nat → Nat → Int64) (rc : Nat → Nat) (t lv : Nat) (T : TD) (u w : Nat) (ps : Nat → AP) (n7 : Nat) (sp : Nat → AP), σm = mkM F A B ∧ σc = mkC Fc Ac Bc rc ∧ Tape F A Fc Ac ∧ Core F A B Fc Ac Bc rc t lv T u w ps n7 sp
