/-! ===== the class's store as functions ===== -/
def c_kd : Nat → Nat := fun k => [11, 30, 9, 31, 32, 32, 33, 10, 34, 35, 35, 35, 36, 36, 37, 35, 35, 35, 5, 35, 35, 38, 10, 34, 35, 35, 35, 36, 36, 37, 35, 35, 35, 5, 35, 35, 38, 3, 5, 35, 35, 38, 5, 35, 35, 38, 0, 35, 35, 4, 39, 39, 39, 40, 8, 20, 41, 5, 35, 35, 38, 5, 35, 35, 38, 5, 35, 35, 38, 1, 21, 35, 35, 35, 35, 7, 35, 35, 35, 35, 35, 35, 38, 7, 35, 35, 35, 35, 35, 35, 38, 7, 35, 35, 35, 35, 35, 35, 38, 7, 35, 35, 35, 35, 35, 35, 38, 7, 35, 35, 35, 35, 35, 35, 38, 7, 35, 35, 35, 35, 35, 35, 38, 2, 22, 42, 6, 6, 6, 6, 6, 6, 6, 6, 6, 6, 6, 6, 6, 6, 6, 6, 6, 6, 6, 6, 6, 6, 6, 6, 6, 6, 6, 6, 6, 6, 6, 6, 6, 6, 6, 6, 6, 6, 6, 6, 6, 6, 6, 6, 6, 6, 6, 6, 6, 6, 6, 6, 6, 6, 6, 6, 6, 6, 6, 6, 6, 6, 6, 6, 6, 6, 42].getD k 99
def c_ar : Nat → Nat × Nat := fun q => if q = 30 then (1, 2000) else if q = 31 then (3, 16) else if q = 32 then (2, 402) else if q = 33 then (3, 402) else if q = 34 then (3, 6) else if q = 35 then (2, 6) else if q = 36 then (2, 400) else if q = 37 then (2, 40) else if q = 38 then (4, 6) else if q = 39 then (2, 50) else if q = 40 then (4, 50) else if q = 41 then (4, 3) else (2, 64)
def c_fs0 (k : Nat) (f : Nat → Int32) (b : Nat → Int64) (r : Nat → Nat) : List Value := [.ref (r 3), .ref (r 4), .ref 47, .ref 48, .int (f 4), .int (f 5)]
def c_fs1 (k : Nat) (f : Nat → Int32) (b : Nat → Int64) (r : Nat → Nat) : List Value := [.int (f 0), .ref 70, .ref 71, .ref 72, .int (f 4), .int (f 5), .ref 73, .ref 74]
def c_fs2 (k : Nat) (f : Nat → Int32) (b : Nat → Int64) (r : Nat → Nat) : List Value := [.ref 124, .ref 125, .ref 126]
def c_fs3 (k : Nat) (f : Nat → Int32) (b : Nat → Int64) (r : Nat → Nat) : List Value := [.ref 2, .ref (r 2), .int (f 2), .int (f 3), .int (f 4), .int (f 5), .int (f 6), .int (f 7), .int (f 8)]
def c_fs4 (k : Nat) (f : Nat → Int32) (b : Nat → Int64) (r : Nat → Nat) : List Value := [.int (f 0), .int (f 1), .ref 50, .ref 51, .ref 52, .ref 53]
def c_fs5 (k : Nat) (f : Nat → Int32) (b : Nat → Int64) (r : Nat → Nat) : List Value := [.int (f 0), .ref (k + 1), .ref (k + 2), .ref (k + 3)]
def c_fs6 (k : Nat) (f : Nat → Int32) (b : Nat → Int64) (r : Nat → Nat) : List Value := [.long (b 0), .long (b 1)]
def c_fs7 (k : Nat) (f : Nat → Int32) (b : Nat → Int64) (r : Nat → Nat) : List Value := [.int (f 0), .int (f 1), .ref (k + 1), .ref (k + 2), .ref (k + 3), .ref (k + 4), .ref (k + 5), .ref (k + 6), .ref (k + 7)]
def c_fs8 (k : Nat) (f : Nat → Int32) (b : Nat → Int64) (r : Nat → Nat) : List Value := [.ref 55, .ref 56]
def c_fs9 (k : Nat) (f : Nat → Int32) (b : Nat → Int64) (r : Nat → Nat) : List Value := [.ref 3, .ref 4, .ref 5, .ref 6, .int (f 4)]
def c_fs10 (k : Nat) (f : Nat → Int32) (b : Nat → Int64) (r : Nat → Nat) : List Value := [.int (f 0), .ref (k + 1), .ref (k + 2), .ref (k + 3), .ref (k + 4), .int (f 5), .ref (k + 5), .ref (k + 6), .ref (k + 7), .int (f 9), .int (f 10), .ref (k + 8), .ref (k + 9), .ref (k + 10), .ref (k + 11)]
def c_fs11 (k : Nat) (f : Nat → Int32) (b : Nat → Int64) (r : Nat → Nat) : List Value := [.ref 1, .int (f 1), .ref 2, .ref (r 0), .ref (r 1), .ref 37, .ref 38, .ref 42, .ref 46, .ref 49, .ref 54, .ref 69, .ref 123, .ref 191, .ref 192]
def c_el (k : Nat) (f : Nat → Int32) (a : Nat → Int32) (b : Nat → Int64) (r : Nat → Nat) : PC := if c_kd k = 0 then .inr (0, c_fs0 k f b r) else if c_kd k = 1 then .inr (1, c_fs1 k f b r) else if c_kd k = 2 then .inr (2, c_fs2 k f b r) else if c_kd k = 3 then .inr (3, c_fs3 k f b r) else if c_kd k = 4 then .inr (4, c_fs4 k f b r) else if c_kd k = 5 then .inr (5, c_fs5 k f b r) else if c_kd k = 6 then .inr (6, c_fs6 k f b r) else if c_kd k = 7 then .inr (7, c_fs7 k f b r) else if c_kd k = 8 then .inr (8, c_fs8 k f b r) else if c_kd k = 9 then .inr (9, c_fs9 k f b r) else if c_kd k = 10 then .inr (10, c_fs10 k f b r) else if c_kd k = 11 then .inr (11, c_fs11 k f b r) else if c_kd k = 20 then .inl (5, 3, .inr (.inr (.inr (.inr (fun j => if j < 3 then some (57 + 4 * j) else none))))) else if c_kd k = 21 then .inl (7, 6, .inr (.inr (.inr (.inr (fun j => if j < 6 then some (75 + 8 * j) else none))))) else if c_kd k = 22 then .inl (6, 64, .inr (.inr (.inr (.inr (fun j => if j < 64 then some (127 + j) else none))))) else if c_kd k = 99 then .inr (99, []) else if (c_ar (c_kd k)).1 = 3 then .inl (3, (c_ar (c_kd k)).2, .inr (.inl b)) else .inl ((c_ar (c_kd k)).1, (c_ar (c_kd k)).2, .inl a)
def mkC (F : Nat → Nat → Int32) (A : Nat → Nat → Int32) (B : Nat → Nat → Int64) (r : Nat → Nat) : Sto := (193, fun k => c_el k (F k) (A k) (B k) r)
theorem mkC_F (F A : Nat → Nat → Int32) (B : Nat → Nat → Int64) (r : Nat → Nat) (c : Nat) (g : Nat → Int32) {x : PC} (hx : x = c_el c g (A c) (B c) r) : (193, va_up (mkC F A B r).2 c x) = mkC (va_up F c g) A B r := by
  subst hx
  unfold mkC
  congr 1
  funext j
  unfold va_up
  by_cases hj : j = c
  · subst hj; rw [if_pos rfl, if_pos rfl]
  · rw [if_neg hj, if_neg hj]
theorem mkC_A (F A : Nat → Nat → Int32) (B : Nat → Nat → Int64) (r : Nat → Nat) (c : Nat) (g : Nat → Int32) {x : PC} (hx : x = c_el c (F c) g (B c) r) : (193, va_up (mkC F A B r).2 c x) = mkC F (va_up A c g) B r := by
  subst hx
  unfold mkC
  congr 1
  funext j
  unfold va_up
  by_cases hj : j = c
  · subst hj; rw [if_pos rfl, if_pos rfl]
  · rw [if_neg hj, if_neg hj]
theorem mkC_B (F A : Nat → Nat → Int32) (B : Nat → Nat → Int64) (r : Nat → Nat) (c : Nat) (g : Nat → Int64) {x : PC} (hx : x = c_el c (F c) (A c) g r) : (193, va_up (mkC F A B r).2 c x) = mkC F A (va_up B c g) r := by
  subst hx
  unfold mkC
  congr 1
  funext j
  unfold va_up
  by_cases hj : j = c
  · subst hj; rw [if_pos rfl, if_pos rfl]
  · rw [if_neg hj, if_neg hj]
set_option maxRecDepth 20000 in
theorem c_lt {c q : Nat} (h : c_kd c = q) (hq : q ≠ 99) : c < 193 := by
  apply Classical.byContradiction
  intro hn
  apply hq
  rw [← h]
  unfold c_kd
  rw [List.getD_eq_getElem?_getD, List.getElem?_eq_none (show 193 ≤ c by omega)]
  rfl
section CB
variable {F A : Nat → Nat → Int32} {B : Nat → Nat → Int64} {r : Nat → Nat} {c : Nat}
theorem cob_0 (h : c_kd c = 0) : hs_o (mkC F A B r) 0 c = some (c_fs0 c (F c) (B c) r) := by
  have hlt := c_lt h (by decide)
  unfold hs_o
  rw [if_pos (show c < (mkC F A B r).1 from hlt)]
  show (match c_el c (F c) (A c) (B c) r with | .inr x => if x.1 = 0 then some x.2 else none | .inl _ => none) = _
  unfold c_el
  rw [h]
  rfl
theorem cck_0 {α : Type} {X : Option α} (h : c_kd c = 0) : ck (mkC F A B r) 0 c X = X := by unfold ck; rw [cob_0 h]
theorem cr0_0 (h : c_kd c = 0) : gR (mkC F A B r) 0 c 0 = some (r 3) := by unfold gR; rw [cob_0 h]; rfl
theorem cr0_1 (h : c_kd c = 0) : gR (mkC F A B r) 0 c 1 = some (r 4) := by unfold gR; rw [cob_0 h]; rfl
theorem cr0_2 (h : c_kd c = 0) : gR (mkC F A B r) 0 c 2 = some (47) := by unfold gR; rw [cob_0 h]; rfl
theorem cr0_3 (h : c_kd c = 0) : gR (mkC F A B r) 0 c 3 = some (48) := by unfold gR; rw [cob_0 h]; rfl
theorem cg0_4 (h : c_kd c = 0) : gI (mkC F A B r) 0 c 4 = some (F c 4) := by unfold gI; rw [cob_0 h]; rfl
theorem cp0_4 (h : c_kd c = 0) (v : Int32) : pV (mkC F A B r) 0 c 4 (.int v) = some (mkC (va_up F c (upd (F c) 4 v)) A B r) := by
  unfold pV
  rw [cob_0 h]
  refine congrArg some (mkC_F F A B r c _ ?_)
  unfold c_el; rw [h]; rfl
theorem cg0_5 (h : c_kd c = 0) : gI (mkC F A B r) 0 c 5 = some (F c 5) := by unfold gI; rw [cob_0 h]; rfl
theorem cp0_5 (h : c_kd c = 0) (v : Int32) : pV (mkC F A B r) 0 c 5 (.int v) = some (mkC (va_up F c (upd (F c) 5 v)) A B r) := by
  unfold pV
  rw [cob_0 h]
  refine congrArg some (mkC_F F A B r c _ ?_)
  unfold c_el; rw [h]; rfl
theorem cob_1 (h : c_kd c = 1) : hs_o (mkC F A B r) 1 c = some (c_fs1 c (F c) (B c) r) := by
  have hlt := c_lt h (by decide)
  unfold hs_o
  rw [if_pos (show c < (mkC F A B r).1 from hlt)]
  show (match c_el c (F c) (A c) (B c) r with | .inr x => if x.1 = 1 then some x.2 else none | .inl _ => none) = _
  unfold c_el
  rw [h]
  rfl
theorem cck_1 {α : Type} {X : Option α} (h : c_kd c = 1) : ck (mkC F A B r) 1 c X = X := by unfold ck; rw [cob_1 h]
theorem cg1_0 (h : c_kd c = 1) : gI (mkC F A B r) 1 c 0 = some (F c 0) := by unfold gI; rw [cob_1 h]; rfl
theorem cp1_0 (h : c_kd c = 1) (v : Int32) : pV (mkC F A B r) 1 c 0 (.int v) = some (mkC (va_up F c (upd (F c) 0 v)) A B r) := by
  unfold pV
  rw [cob_1 h]
  refine congrArg some (mkC_F F A B r c _ ?_)
  unfold c_el; rw [h]; rfl
theorem cr1_1 (h : c_kd c = 1) : gR (mkC F A B r) 1 c 1 = some (70) := by unfold gR; rw [cob_1 h]; rfl
theorem cr1_2 (h : c_kd c = 1) : gR (mkC F A B r) 1 c 2 = some (71) := by unfold gR; rw [cob_1 h]; rfl
theorem cr1_3 (h : c_kd c = 1) : gR (mkC F A B r) 1 c 3 = some (72) := by unfold gR; rw [cob_1 h]; rfl
theorem cg1_4 (h : c_kd c = 1) : gI (mkC F A B r) 1 c 4 = some (F c 4) := by unfold gI; rw [cob_1 h]; rfl
theorem cp1_4 (h : c_kd c = 1) (v : Int32) : pV (mkC F A B r) 1 c 4 (.int v) = some (mkC (va_up F c (upd (F c) 4 v)) A B r) := by
  unfold pV
  rw [cob_1 h]
  refine congrArg some (mkC_F F A B r c _ ?_)
  unfold c_el; rw [h]; rfl
theorem cg1_5 (h : c_kd c = 1) : gI (mkC F A B r) 1 c 5 = some (F c 5) := by unfold gI; rw [cob_1 h]; rfl
theorem cp1_5 (h : c_kd c = 1) (v : Int32) : pV (mkC F A B r) 1 c 5 (.int v) = some (mkC (va_up F c (upd (F c) 5 v)) A B r) := by
  unfold pV
  rw [cob_1 h]
  refine congrArg some (mkC_F F A B r c _ ?_)
  unfold c_el; rw [h]; rfl
theorem cr1_6 (h : c_kd c = 1) : gR (mkC F A B r) 1 c 6 = some (73) := by unfold gR; rw [cob_1 h]; rfl
theorem cr1_7 (h : c_kd c = 1) : gR (mkC F A B r) 1 c 7 = some (74) := by unfold gR; rw [cob_1 h]; rfl
theorem cob_2 (h : c_kd c = 2) : hs_o (mkC F A B r) 2 c = some (c_fs2 c (F c) (B c) r) := by
  have hlt := c_lt h (by decide)
  unfold hs_o
  rw [if_pos (show c < (mkC F A B r).1 from hlt)]
  show (match c_el c (F c) (A c) (B c) r with | .inr x => if x.1 = 2 then some x.2 else none | .inl _ => none) = _
  unfold c_el
  rw [h]
  rfl
theorem cck_2 {α : Type} {X : Option α} (h : c_kd c = 2) : ck (mkC F A B r) 2 c X = X := by unfold ck; rw [cob_2 h]
theorem cr2_0 (h : c_kd c = 2) : gR (mkC F A B r) 2 c 0 = some (124) := by unfold gR; rw [cob_2 h]; rfl
theorem cr2_1 (h : c_kd c = 2) : gR (mkC F A B r) 2 c 1 = some (125) := by unfold gR; rw [cob_2 h]; rfl
theorem cr2_2 (h : c_kd c = 2) : gR (mkC F A B r) 2 c 2 = some (126) := by unfold gR; rw [cob_2 h]; rfl
theorem cob_3 (h : c_kd c = 3) : hs_o (mkC F A B r) 3 c = some (c_fs3 c (F c) (B c) r) := by
  have hlt := c_lt h (by decide)
  unfold hs_o
  rw [if_pos (show c < (mkC F A B r).1 from hlt)]
  show (match c_el c (F c) (A c) (B c) r with | .inr x => if x.1 = 3 then some x.2 else none | .inl _ => none) = _
  unfold c_el
  rw [h]
  rfl
theorem cck_3 {α : Type} {X : Option α} (h : c_kd c = 3) : ck (mkC F A B r) 3 c X = X := by unfold ck; rw [cob_3 h]
theorem cr3_0 (h : c_kd c = 3) : gR (mkC F A B r) 3 c 0 = some (2) := by unfold gR; rw [cob_3 h]; rfl
theorem cr3_1 (h : c_kd c = 3) : gR (mkC F A B r) 3 c 1 = some (r 2) := by unfold gR; rw [cob_3 h]; rfl
theorem cg3_2 (h : c_kd c = 3) : gI (mkC F A B r) 3 c 2 = some (F c 2) := by unfold gI; rw [cob_3 h]; rfl
theorem cp3_2 (h : c_kd c = 3) (v : Int32) : pV (mkC F A B r) 3 c 2 (.int v) = some (mkC (va_up F c (upd (F c) 2 v)) A B r) := by
  unfold pV
  rw [cob_3 h]
  refine congrArg some (mkC_F F A B r c _ ?_)
  unfold c_el; rw [h]; rfl
theorem cg3_3 (h : c_kd c = 3) : gI (mkC F A B r) 3 c 3 = some (F c 3) := by unfold gI; rw [cob_3 h]; rfl
theorem cp3_3 (h : c_kd c = 3) (v : Int32) : pV (mkC F A B r) 3 c 3 (.int v) = some (mkC (va_up F c (upd (F c) 3 v)) A B r) := by
  unfold pV
  rw [cob_3 h]
  refine congrArg some (mkC_F F A B r c _ ?_)
  unfold c_el; rw [h]; rfl
theorem cg3_4 (h : c_kd c = 3) : gI (mkC F A B r) 3 c 4 = some (F c 4) := by unfold gI; rw [cob_3 h]; rfl
theorem cp3_4 (h : c_kd c = 3) (v : Int32) : pV (mkC F A B r) 3 c 4 (.int v) = some (mkC (va_up F c (upd (F c) 4 v)) A B r) := by
  unfold pV
  rw [cob_3 h]
  refine congrArg some (mkC_F F A B r c _ ?_)
  unfold c_el; rw [h]; rfl
theorem cg3_5 (h : c_kd c = 3) : gI (mkC F A B r) 3 c 5 = some (F c 5) := by unfold gI; rw [cob_3 h]; rfl
theorem cp3_5 (h : c_kd c = 3) (v : Int32) : pV (mkC F A B r) 3 c 5 (.int v) = some (mkC (va_up F c (upd (F c) 5 v)) A B r) := by
  unfold pV
  rw [cob_3 h]
  refine congrArg some (mkC_F F A B r c _ ?_)
  unfold c_el; rw [h]; rfl
theorem cg3_6 (h : c_kd c = 3) : gI (mkC F A B r) 3 c 6 = some (F c 6) := by unfold gI; rw [cob_3 h]; rfl
theorem cp3_6 (h : c_kd c = 3) (v : Int32) : pV (mkC F A B r) 3 c 6 (.int v) = some (mkC (va_up F c (upd (F c) 6 v)) A B r) := by
  unfold pV
  rw [cob_3 h]
  refine congrArg some (mkC_F F A B r c _ ?_)
  unfold c_el; rw [h]; rfl
theorem cg3_7 (h : c_kd c = 3) : gI (mkC F A B r) 3 c 7 = some (F c 7) := by unfold gI; rw [cob_3 h]; rfl
theorem cp3_7 (h : c_kd c = 3) (v : Int32) : pV (mkC F A B r) 3 c 7 (.int v) = some (mkC (va_up F c (upd (F c) 7 v)) A B r) := by
  unfold pV
  rw [cob_3 h]
  refine congrArg some (mkC_F F A B r c _ ?_)
  unfold c_el; rw [h]; rfl
theorem cg3_8 (h : c_kd c = 3) : gI (mkC F A B r) 3 c 8 = some (F c 8) := by unfold gI; rw [cob_3 h]; rfl
theorem cp3_8 (h : c_kd c = 3) (v : Int32) : pV (mkC F A B r) 3 c 8 (.int v) = some (mkC (va_up F c (upd (F c) 8 v)) A B r) := by
  unfold pV
  rw [cob_3 h]
  refine congrArg some (mkC_F F A B r c _ ?_)
  unfold c_el; rw [h]; rfl
theorem cob_4 (h : c_kd c = 4) : hs_o (mkC F A B r) 4 c = some (c_fs4 c (F c) (B c) r) := by
  have hlt := c_lt h (by decide)
  unfold hs_o
  rw [if_pos (show c < (mkC F A B r).1 from hlt)]
  show (match c_el c (F c) (A c) (B c) r with | .inr x => if x.1 = 4 then some x.2 else none | .inl _ => none) = _
  unfold c_el
  rw [h]
  rfl
theorem cck_4 {α : Type} {X : Option α} (h : c_kd c = 4) : ck (mkC F A B r) 4 c X = X := by unfold ck; rw [cob_4 h]
theorem cg4_0 (h : c_kd c = 4) : gI (mkC F A B r) 4 c 0 = some (F c 0) := by unfold gI; rw [cob_4 h]; rfl
theorem cp4_0 (h : c_kd c = 4) (v : Int32) : pV (mkC F A B r) 4 c 0 (.int v) = some (mkC (va_up F c (upd (F c) 0 v)) A B r) := by
  unfold pV
  rw [cob_4 h]
  refine congrArg some (mkC_F F A B r c _ ?_)
  unfold c_el; rw [h]; rfl
theorem cg4_1 (h : c_kd c = 4) : gI (mkC F A B r) 4 c 1 = some (F c 1) := by unfold gI; rw [cob_4 h]; rfl
theorem cp4_1 (h : c_kd c = 4) (v : Int32) : pV (mkC F A B r) 4 c 1 (.int v) = some (mkC (va_up F c (upd (F c) 1 v)) A B r) := by
  unfold pV
  rw [cob_4 h]
  refine congrArg some (mkC_F F A B r c _ ?_)
  unfold c_el; rw [h]; rfl
theorem cr4_2 (h : c_kd c = 4) : gR (mkC F A B r) 4 c 2 = some (50) := by unfold gR; rw [cob_4 h]; rfl
theorem cr4_3 (h : c_kd c = 4) : gR (mkC F A B r) 4 c 3 = some (51) := by unfold gR; rw [cob_4 h]; rfl
theorem cr4_4 (h : c_kd c = 4) : gR (mkC F A B r) 4 c 4 = some (52) := by unfold gR; rw [cob_4 h]; rfl
theorem cr4_5 (h : c_kd c = 4) : gR (mkC F A B r) 4 c 5 = some (53) := by unfold gR; rw [cob_4 h]; rfl
theorem cob_5 (h : c_kd c = 5) : hs_o (mkC F A B r) 5 c = some (c_fs5 c (F c) (B c) r) := by
  have hlt := c_lt h (by decide)
  unfold hs_o
  rw [if_pos (show c < (mkC F A B r).1 from hlt)]
  show (match c_el c (F c) (A c) (B c) r with | .inr x => if x.1 = 5 then some x.2 else none | .inl _ => none) = _
  unfold c_el
  rw [h]
  rfl
theorem cck_5 {α : Type} {X : Option α} (h : c_kd c = 5) : ck (mkC F A B r) 5 c X = X := by unfold ck; rw [cob_5 h]
theorem cg5_0 (h : c_kd c = 5) : gI (mkC F A B r) 5 c 0 = some (F c 0) := by unfold gI; rw [cob_5 h]; rfl
theorem cp5_0 (h : c_kd c = 5) (v : Int32) : pV (mkC F A B r) 5 c 0 (.int v) = some (mkC (va_up F c (upd (F c) 0 v)) A B r) := by
  unfold pV
  rw [cob_5 h]
  refine congrArg some (mkC_F F A B r c _ ?_)
  unfold c_el; rw [h]; rfl
theorem cr5_1 (h : c_kd c = 5) : gR (mkC F A B r) 5 c 1 = some (c + 1) := by unfold gR; rw [cob_5 h]; rfl
theorem cr5_2 (h : c_kd c = 5) : gR (mkC F A B r) 5 c 2 = some (c + 2) := by unfold gR; rw [cob_5 h]; rfl
theorem cr5_3 (h : c_kd c = 5) : gR (mkC F A B r) 5 c 3 = some (c + 3) := by unfold gR; rw [cob_5 h]; rfl
theorem cob_6 (h : c_kd c = 6) : hs_o (mkC F A B r) 6 c = some (c_fs6 c (F c) (B c) r) := by
  have hlt := c_lt h (by decide)
  unfold hs_o
  rw [if_pos (show c < (mkC F A B r).1 from hlt)]
  show (match c_el c (F c) (A c) (B c) r with | .inr x => if x.1 = 6 then some x.2 else none | .inl _ => none) = _
  unfold c_el
  rw [h]
  rfl
theorem cck_6 {α : Type} {X : Option α} (h : c_kd c = 6) : ck (mkC F A B r) 6 c X = X := by unfold ck; rw [cob_6 h]
theorem cg6_0 (h : c_kd c = 6) : gL (mkC F A B r) 6 c 0 = some (B c 0) := by unfold gL; rw [cob_6 h]; rfl
theorem cp6_0 (h : c_kd c = 6) (v : Int64) : pV (mkC F A B r) 6 c 0 (.long v) = some (mkC F A (va_up B c (vp_updL (B c) 0 v)) r) := by
  unfold pV
  rw [cob_6 h]
  refine congrArg some (mkC_B F A B r c _ ?_)
  unfold c_el; rw [h]; rfl
theorem cg6_1 (h : c_kd c = 6) : gL (mkC F A B r) 6 c 1 = some (B c 1) := by unfold gL; rw [cob_6 h]; rfl
theorem cp6_1 (h : c_kd c = 6) (v : Int64) : pV (mkC F A B r) 6 c 1 (.long v) = some (mkC F A (va_up B c (vp_updL (B c) 1 v)) r) := by
  unfold pV
  rw [cob_6 h]
  refine congrArg some (mkC_B F A B r c _ ?_)
  unfold c_el; rw [h]; rfl
theorem cob_7 (h : c_kd c = 7) : hs_o (mkC F A B r) 7 c = some (c_fs7 c (F c) (B c) r) := by
  have hlt := c_lt h (by decide)
  unfold hs_o
  rw [if_pos (show c < (mkC F A B r).1 from hlt)]
  show (match c_el c (F c) (A c) (B c) r with | .inr x => if x.1 = 7 then some x.2 else none | .inl _ => none) = _
  unfold c_el
  rw [h]
  rfl
theorem cck_7 {α : Type} {X : Option α} (h : c_kd c = 7) : ck (mkC F A B r) 7 c X = X := by unfold ck; rw [cob_7 h]
theorem cg7_0 (h : c_kd c = 7) : gI (mkC F A B r) 7 c 0 = some (F c 0) := by unfold gI; rw [cob_7 h]; rfl
theorem cp7_0 (h : c_kd c = 7) (v : Int32) : pV (mkC F A B r) 7 c 0 (.int v) = some (mkC (va_up F c (upd (F c) 0 v)) A B r) := by
  unfold pV
  rw [cob_7 h]
  refine congrArg some (mkC_F F A B r c _ ?_)
  unfold c_el; rw [h]; rfl
theorem cg7_1 (h : c_kd c = 7) : gI (mkC F A B r) 7 c 1 = some (F c 1) := by unfold gI; rw [cob_7 h]; rfl
theorem cp7_1 (h : c_kd c = 7) (v : Int32) : pV (mkC F A B r) 7 c 1 (.int v) = some (mkC (va_up F c (upd (F c) 1 v)) A B r) := by
  unfold pV
  rw [cob_7 h]
  refine congrArg some (mkC_F F A B r c _ ?_)
  unfold c_el; rw [h]; rfl
theorem cr7_2 (h : c_kd c = 7) : gR (mkC F A B r) 7 c 2 = some (c + 1) := by unfold gR; rw [cob_7 h]; rfl
theorem cr7_3 (h : c_kd c = 7) : gR (mkC F A B r) 7 c 3 = some (c + 2) := by unfold gR; rw [cob_7 h]; rfl
theorem cr7_4 (h : c_kd c = 7) : gR (mkC F A B r) 7 c 4 = some (c + 3) := by unfold gR; rw [cob_7 h]; rfl
theorem cr7_5 (h : c_kd c = 7) : gR (mkC F A B r) 7 c 5 = some (c + 4) := by unfold gR; rw [cob_7 h]; rfl
theorem cr7_6 (h : c_kd c = 7) : gR (mkC F A B r) 7 c 6 = some (c + 5) := by unfold gR; rw [cob_7 h]; rfl
theorem cr7_7 (h : c_kd c = 7) : gR (mkC F A B r) 7 c 7 = some (c + 6) := by unfold gR; rw [cob_7 h]; rfl
theorem cr7_8 (h : c_kd c = 7) : gR (mkC F A B r) 7 c 8 = some (c + 7) := by unfold gR; rw [cob_7 h]; rfl
theorem cob_8 (h : c_kd c = 8) : hs_o (mkC F A B r) 8 c = some (c_fs8 c (F c) (B c) r) := by
  have hlt := c_lt h (by decide)
  unfold hs_o
  rw [if_pos (show c < (mkC F A B r).1 from hlt)]
  show (match c_el c (F c) (A c) (B c) r with | .inr x => if x.1 = 8 then some x.2 else none | .inl _ => none) = _
  unfold c_el
  rw [h]
  rfl
theorem cck_8 {α : Type} {X : Option α} (h : c_kd c = 8) : ck (mkC F A B r) 8 c X = X := by unfold ck; rw [cob_8 h]
theorem cr8_0 (h : c_kd c = 8) : gR (mkC F A B r) 8 c 0 = some (55) := by unfold gR; rw [cob_8 h]; rfl
theorem cr8_1 (h : c_kd c = 8) : gR (mkC F A B r) 8 c 1 = some (56) := by unfold gR; rw [cob_8 h]; rfl
theorem cob_9 (h : c_kd c = 9) : hs_o (mkC F A B r) 9 c = some (c_fs9 c (F c) (B c) r) := by
  have hlt := c_lt h (by decide)
  unfold hs_o
  rw [if_pos (show c < (mkC F A B r).1 from hlt)]
  show (match c_el c (F c) (A c) (B c) r with | .inr x => if x.1 = 9 then some x.2 else none | .inl _ => none) = _
  unfold c_el
  rw [h]
  rfl
theorem cck_9 {α : Type} {X : Option α} (h : c_kd c = 9) : ck (mkC F A B r) 9 c X = X := by unfold ck; rw [cob_9 h]
theorem cr9_0 (h : c_kd c = 9) : gR (mkC F A B r) 9 c 0 = some (3) := by unfold gR; rw [cob_9 h]; rfl
theorem cr9_1 (h : c_kd c = 9) : gR (mkC F A B r) 9 c 1 = some (4) := by unfold gR; rw [cob_9 h]; rfl
theorem cr9_2 (h : c_kd c = 9) : gR (mkC F A B r) 9 c 2 = some (5) := by unfold gR; rw [cob_9 h]; rfl
theorem cr9_3 (h : c_kd c = 9) : gR (mkC F A B r) 9 c 3 = some (6) := by unfold gR; rw [cob_9 h]; rfl
theorem cg9_4 (h : c_kd c = 9) : gI (mkC F A B r) 9 c 4 = some (F c 4) := by unfold gI; rw [cob_9 h]; rfl
theorem cp9_4 (h : c_kd c = 9) (v : Int32) : pV (mkC F A B r) 9 c 4 (.int v) = some (mkC (va_up F c (upd (F c) 4 v)) A B r) := by
  unfold pV
  rw [cob_9 h]
  refine congrArg some (mkC_F F A B r c _ ?_)
  unfold c_el; rw [h]; rfl
theorem cob_10 (h : c_kd c = 10) : hs_o (mkC F A B r) 10 c = some (c_fs10 c (F c) (B c) r) := by
  have hlt := c_lt h (by decide)
  unfold hs_o
  rw [if_pos (show c < (mkC F A B r).1 from hlt)]
  show (match c_el c (F c) (A c) (B c) r with | .inr x => if x.1 = 10 then some x.2 else none | .inl _ => none) = _
  unfold c_el
  rw [h]
  rfl
theorem cck_10 {α : Type} {X : Option α} (h : c_kd c = 10) : ck (mkC F A B r) 10 c X = X := by unfold ck; rw [cob_10 h]
theorem cg10_0 (h : c_kd c = 10) : gI (mkC F A B r) 10 c 0 = some (F c 0) := by unfold gI; rw [cob_10 h]; rfl
theorem cp10_0 (h : c_kd c = 10) (v : Int32) : pV (mkC F A B r) 10 c 0 (.int v) = some (mkC (va_up F c (upd (F c) 0 v)) A B r) := by
  unfold pV
  rw [cob_10 h]
  refine congrArg some (mkC_F F A B r c _ ?_)
  unfold c_el; rw [h]; rfl
theorem cr10_1 (h : c_kd c = 10) : gR (mkC F A B r) 10 c 1 = some (c + 1) := by unfold gR; rw [cob_10 h]; rfl
theorem cr10_2 (h : c_kd c = 10) : gR (mkC F A B r) 10 c 2 = some (c + 2) := by unfold gR; rw [cob_10 h]; rfl
theorem cr10_3 (h : c_kd c = 10) : gR (mkC F A B r) 10 c 3 = some (c + 3) := by unfold gR; rw [cob_10 h]; rfl
theorem cr10_4 (h : c_kd c = 10) : gR (mkC F A B r) 10 c 4 = some (c + 4) := by unfold gR; rw [cob_10 h]; rfl
theorem cg10_5 (h : c_kd c = 10) : gI (mkC F A B r) 10 c 5 = some (F c 5) := by unfold gI; rw [cob_10 h]; rfl
theorem cp10_5 (h : c_kd c = 10) (v : Int32) : pV (mkC F A B r) 10 c 5 (.int v) = some (mkC (va_up F c (upd (F c) 5 v)) A B r) := by
  unfold pV
  rw [cob_10 h]
  refine congrArg some (mkC_F F A B r c _ ?_)
  unfold c_el; rw [h]; rfl
theorem cr10_6 (h : c_kd c = 10) : gR (mkC F A B r) 10 c 6 = some (c + 5) := by unfold gR; rw [cob_10 h]; rfl
theorem cr10_7 (h : c_kd c = 10) : gR (mkC F A B r) 10 c 7 = some (c + 6) := by unfold gR; rw [cob_10 h]; rfl
theorem cr10_8 (h : c_kd c = 10) : gR (mkC F A B r) 10 c 8 = some (c + 7) := by unfold gR; rw [cob_10 h]; rfl
theorem cg10_9 (h : c_kd c = 10) : gI (mkC F A B r) 10 c 9 = some (F c 9) := by unfold gI; rw [cob_10 h]; rfl
theorem cp10_9 (h : c_kd c = 10) (v : Int32) : pV (mkC F A B r) 10 c 9 (.int v) = some (mkC (va_up F c (upd (F c) 9 v)) A B r) := by
  unfold pV
  rw [cob_10 h]
  refine congrArg some (mkC_F F A B r c _ ?_)
  unfold c_el; rw [h]; rfl
theorem cg10_10 (h : c_kd c = 10) : gI (mkC F A B r) 10 c 10 = some (F c 10) := by unfold gI; rw [cob_10 h]; rfl
theorem cp10_10 (h : c_kd c = 10) (v : Int32) : pV (mkC F A B r) 10 c 10 (.int v) = some (mkC (va_up F c (upd (F c) 10 v)) A B r) := by
  unfold pV
  rw [cob_10 h]
  refine congrArg some (mkC_F F A B r c _ ?_)
  unfold c_el; rw [h]; rfl
theorem cr10_11 (h : c_kd c = 10) : gR (mkC F A B r) 10 c 11 = some (c + 8) := by unfold gR; rw [cob_10 h]; rfl
theorem cr10_12 (h : c_kd c = 10) : gR (mkC F A B r) 10 c 12 = some (c + 9) := by unfold gR; rw [cob_10 h]; rfl
theorem cr10_13 (h : c_kd c = 10) : gR (mkC F A B r) 10 c 13 = some (c + 10) := by unfold gR; rw [cob_10 h]; rfl
theorem cr10_14 (h : c_kd c = 10) : gR (mkC F A B r) 10 c 14 = some (c + 11) := by unfold gR; rw [cob_10 h]; rfl
theorem cob_11 (h : c_kd c = 11) : hs_o (mkC F A B r) 11 c = some (c_fs11 c (F c) (B c) r) := by
  have hlt := c_lt h (by decide)
  unfold hs_o
  rw [if_pos (show c < (mkC F A B r).1 from hlt)]
  show (match c_el c (F c) (A c) (B c) r with | .inr x => if x.1 = 11 then some x.2 else none | .inl _ => none) = _
  unfold c_el
  rw [h]
  rfl
theorem cck_11 {α : Type} {X : Option α} (h : c_kd c = 11) : ck (mkC F A B r) 11 c X = X := by unfold ck; rw [cob_11 h]
theorem cr11_0 (h : c_kd c = 11) : gR (mkC F A B r) 11 c 0 = some (1) := by unfold gR; rw [cob_11 h]; rfl
theorem cg11_1 (h : c_kd c = 11) : gI (mkC F A B r) 11 c 1 = some (F c 1) := by unfold gI; rw [cob_11 h]; rfl
theorem cp11_1 (h : c_kd c = 11) (v : Int32) : pV (mkC F A B r) 11 c 1 (.int v) = some (mkC (va_up F c (upd (F c) 1 v)) A B r) := by
  unfold pV
  rw [cob_11 h]
  refine congrArg some (mkC_F F A B r c _ ?_)
  unfold c_el; rw [h]; rfl
theorem cr11_2 (h : c_kd c = 11) : gR (mkC F A B r) 11 c 2 = some (2) := by unfold gR; rw [cob_11 h]; rfl
theorem cr11_3 (h : c_kd c = 11) : gR (mkC F A B r) 11 c 3 = some (r 0) := by unfold gR; rw [cob_11 h]; rfl
theorem cr11_4 (h : c_kd c = 11) : gR (mkC F A B r) 11 c 4 = some (r 1) := by unfold gR; rw [cob_11 h]; rfl
theorem cr11_5 (h : c_kd c = 11) : gR (mkC F A B r) 11 c 5 = some (37) := by unfold gR; rw [cob_11 h]; rfl
theorem cr11_6 (h : c_kd c = 11) : gR (mkC F A B r) 11 c 6 = some (38) := by unfold gR; rw [cob_11 h]; rfl
theorem cr11_7 (h : c_kd c = 11) : gR (mkC F A B r) 11 c 7 = some (42) := by unfold gR; rw [cob_11 h]; rfl
theorem cr11_8 (h : c_kd c = 11) : gR (mkC F A B r) 11 c 8 = some (46) := by unfold gR; rw [cob_11 h]; rfl
theorem cr11_9 (h : c_kd c = 11) : gR (mkC F A B r) 11 c 9 = some (49) := by unfold gR; rw [cob_11 h]; rfl
theorem cr11_10 (h : c_kd c = 11) : gR (mkC F A B r) 11 c 10 = some (54) := by unfold gR; rw [cob_11 h]; rfl
theorem cr11_11 (h : c_kd c = 11) : gR (mkC F A B r) 11 c 11 = some (69) := by unfold gR; rw [cob_11 h]; rfl
theorem cr11_12 (h : c_kd c = 11) : gR (mkC F A B r) 11 c 12 = some (123) := by unfold gR; rw [cob_11 h]; rfl
theorem cr11_13 (h : c_kd c = 11) : gR (mkC F A B r) 11 c 13 = some (191) := by unfold gR; rw [cob_11 h]; rfl
theorem cr11_14 (h : c_kd c = 11) : gR (mkC F A B r) 11 c 14 = some (192) := by unfold gR; rw [cob_11 h]; rfl
theorem car_30 (h : c_kd c = 30) : hs_r (mkC F A B r) 1 c = some (2000, .inl (A c)) := by
  have hlt := c_lt h (by decide)
  unfold hs_r
  rw [if_pos (show c < (mkC F A B r).1 from hlt)]
  show (match c_el c (F c) (A c) (B c) r with | .inl x => if x.1 = 1 then some x.2 else none | .inr _ => none) = _
  unfold c_el
  rw [h]
  rfl
theorem ca_30 (h : c_kd c = 30) {j : Nat} (hj : j < 2000) : aI (mkC F A B r) 1 c (nI j) = some (A c j) := hs_aI (car_30 h) hj (by decide)
theorem cs_30 (h : c_kd c = 30) {j : Nat} (hj : j < 2000) (x : Int32) : sI (mkC F A B r) 1 c (nI j) x = some (mkC F (va_up A c (upd (A c) j (hs_nar 1 x))) B r) := by
  rw [hs_sI (car_30 h) hj (by decide)]
  refine congrArg some (mkC_A F A B r c _ ?_)
  unfold c_el; rw [h]; rfl
theorem car_31 (h : c_kd c = 31) : hs_r (mkC F A B r) 3 c = some (16, .inr (.inl (B c))) := by
  have hlt := c_lt h (by decide)
  unfold hs_r
  rw [if_pos (show c < (mkC F A B r).1 from hlt)]
  show (match c_el c (F c) (A c) (B c) r with | .inl x => if x.1 = 3 then some x.2 else none | .inr _ => none) = _
  unfold c_el
  rw [h]
  rfl
theorem ca_31 (h : c_kd c = 31) {j : Nat} (hj : j < 16) : aL (mkC F A B r) 3 c (nI j) = some (B c j) := hs_aL (car_31 h) hj (by decide)
theorem cs_31 (h : c_kd c = 31) {j : Nat} (hj : j < 16) (x : Int64) : sL (mkC F A B r) 3 c (nI j) x = some (mkC F A (va_up B c (vp_updL (B c) j x)) r) := by
  rw [hs_sL (car_31 h) hj (by decide)]
  refine congrArg some (mkC_B F A B r c _ ?_)
  unfold c_el; rw [h]; rfl
theorem car_32 (h : c_kd c = 32) : hs_r (mkC F A B r) 2 c = some (402, .inl (A c)) := by
  have hlt := c_lt h (by decide)
  unfold hs_r
  rw [if_pos (show c < (mkC F A B r).1 from hlt)]
  show (match c_el c (F c) (A c) (B c) r with | .inl x => if x.1 = 2 then some x.2 else none | .inr _ => none) = _
  unfold c_el
  rw [h]
  rfl
theorem ca_32 (h : c_kd c = 32) {j : Nat} (hj : j < 402) : aI (mkC F A B r) 2 c (nI j) = some (A c j) := hs_aI (car_32 h) hj (by decide)
theorem cs_32 (h : c_kd c = 32) {j : Nat} (hj : j < 402) (x : Int32) : sI (mkC F A B r) 2 c (nI j) x = some (mkC F (va_up A c (upd (A c) j (hs_nar 2 x))) B r) := by
  rw [hs_sI (car_32 h) hj (by decide)]
  refine congrArg some (mkC_A F A B r c _ ?_)
  unfold c_el; rw [h]; rfl
theorem car_33 (h : c_kd c = 33) : hs_r (mkC F A B r) 3 c = some (402, .inr (.inl (B c))) := by
  have hlt := c_lt h (by decide)
  unfold hs_r
  rw [if_pos (show c < (mkC F A B r).1 from hlt)]
  show (match c_el c (F c) (A c) (B c) r with | .inl x => if x.1 = 3 then some x.2 else none | .inr _ => none) = _
  unfold c_el
  rw [h]
  rfl
theorem ca_33 (h : c_kd c = 33) {j : Nat} (hj : j < 402) : aL (mkC F A B r) 3 c (nI j) = some (B c j) := hs_aL (car_33 h) hj (by decide)
theorem cs_33 (h : c_kd c = 33) {j : Nat} (hj : j < 402) (x : Int64) : sL (mkC F A B r) 3 c (nI j) x = some (mkC F A (va_up B c (vp_updL (B c) j x)) r) := by
  rw [hs_sL (car_33 h) hj (by decide)]
  refine congrArg some (mkC_B F A B r c _ ?_)
  unfold c_el; rw [h]; rfl
theorem car_34 (h : c_kd c = 34) : hs_r (mkC F A B r) 3 c = some (6, .inr (.inl (B c))) := by
  have hlt := c_lt h (by decide)
  unfold hs_r
  rw [if_pos (show c < (mkC F A B r).1 from hlt)]
  show (match c_el c (F c) (A c) (B c) r with | .inl x => if x.1 = 3 then some x.2 else none | .inr _ => none) = _
  unfold c_el
  rw [h]
  rfl
theorem ca_34 (h : c_kd c = 34) {j : Nat} (hj : j < 6) : aL (mkC F A B r) 3 c (nI j) = some (B c j) := hs_aL (car_34 h) hj (by decide)
theorem cs_34 (h : c_kd c = 34) {j : Nat} (hj : j < 6) (x : Int64) : sL (mkC F A B r) 3 c (nI j) x = some (mkC F A (va_up B c (vp_updL (B c) j x)) r) := by
  rw [hs_sL (car_34 h) hj (by decide)]
  refine congrArg some (mkC_B F A B r c _ ?_)
  unfold c_el; rw [h]; rfl
theorem car_35 (h : c_kd c = 35) : hs_r (mkC F A B r) 2 c = some (6, .inl (A c)) := by
  have hlt := c_lt h (by decide)
  unfold hs_r
  rw [if_pos (show c < (mkC F A B r).1 from hlt)]
  show (match c_el c (F c) (A c) (B c) r with | .inl x => if x.1 = 2 then some x.2 else none | .inr _ => none) = _
  unfold c_el
  rw [h]
  rfl
theorem ca_35 (h : c_kd c = 35) {j : Nat} (hj : j < 6) : aI (mkC F A B r) 2 c (nI j) = some (A c j) := hs_aI (car_35 h) hj (by decide)
theorem cs_35 (h : c_kd c = 35) {j : Nat} (hj : j < 6) (x : Int32) : sI (mkC F A B r) 2 c (nI j) x = some (mkC F (va_up A c (upd (A c) j (hs_nar 2 x))) B r) := by
  rw [hs_sI (car_35 h) hj (by decide)]
  refine congrArg some (mkC_A F A B r c _ ?_)
  unfold c_el; rw [h]; rfl
theorem car_36 (h : c_kd c = 36) : hs_r (mkC F A B r) 2 c = some (400, .inl (A c)) := by
  have hlt := c_lt h (by decide)
  unfold hs_r
  rw [if_pos (show c < (mkC F A B r).1 from hlt)]
  show (match c_el c (F c) (A c) (B c) r with | .inl x => if x.1 = 2 then some x.2 else none | .inr _ => none) = _
  unfold c_el
  rw [h]
  rfl
theorem ca_36 (h : c_kd c = 36) {j : Nat} (hj : j < 400) : aI (mkC F A B r) 2 c (nI j) = some (A c j) := hs_aI (car_36 h) hj (by decide)
theorem cs_36 (h : c_kd c = 36) {j : Nat} (hj : j < 400) (x : Int32) : sI (mkC F A B r) 2 c (nI j) x = some (mkC F (va_up A c (upd (A c) j (hs_nar 2 x))) B r) := by
  rw [hs_sI (car_36 h) hj (by decide)]
  refine congrArg some (mkC_A F A B r c _ ?_)
  unfold c_el; rw [h]; rfl
theorem car_37 (h : c_kd c = 37) : hs_r (mkC F A B r) 2 c = some (40, .inl (A c)) := by
  have hlt := c_lt h (by decide)
  unfold hs_r
  rw [if_pos (show c < (mkC F A B r).1 from hlt)]
  show (match c_el c (F c) (A c) (B c) r with | .inl x => if x.1 = 2 then some x.2 else none | .inr _ => none) = _
  unfold c_el
  rw [h]
  rfl
theorem ca_37 (h : c_kd c = 37) {j : Nat} (hj : j < 40) : aI (mkC F A B r) 2 c (nI j) = some (A c j) := hs_aI (car_37 h) hj (by decide)
theorem cs_37 (h : c_kd c = 37) {j : Nat} (hj : j < 40) (x : Int32) : sI (mkC F A B r) 2 c (nI j) x = some (mkC F (va_up A c (upd (A c) j (hs_nar 2 x))) B r) := by
  rw [hs_sI (car_37 h) hj (by decide)]
  refine congrArg some (mkC_A F A B r c _ ?_)
  unfold c_el; rw [h]; rfl
theorem car_38 (h : c_kd c = 38) : hs_r (mkC F A B r) 4 c = some (6, .inl (A c)) := by
  have hlt := c_lt h (by decide)
  unfold hs_r
  rw [if_pos (show c < (mkC F A B r).1 from hlt)]
  show (match c_el c (F c) (A c) (B c) r with | .inl x => if x.1 = 4 then some x.2 else none | .inr _ => none) = _
  unfold c_el
  rw [h]
  rfl
theorem ca_38 (h : c_kd c = 38) {j : Nat} (hj : j < 6) : aI (mkC F A B r) 4 c (nI j) = some (A c j) := hs_aI (car_38 h) hj (by decide)
theorem cs_38 (h : c_kd c = 38) {j : Nat} (hj : j < 6) (x : Int32) : sI (mkC F A B r) 4 c (nI j) x = some (mkC F (va_up A c (upd (A c) j (hs_nar 4 x))) B r) := by
  rw [hs_sI (car_38 h) hj (by decide)]
  refine congrArg some (mkC_A F A B r c _ ?_)
  unfold c_el; rw [h]; rfl
theorem car_39 (h : c_kd c = 39) : hs_r (mkC F A B r) 2 c = some (50, .inl (A c)) := by
  have hlt := c_lt h (by decide)
  unfold hs_r
  rw [if_pos (show c < (mkC F A B r).1 from hlt)]
  show (match c_el c (F c) (A c) (B c) r with | .inl x => if x.1 = 2 then some x.2 else none | .inr _ => none) = _
  unfold c_el
  rw [h]
  rfl
theorem ca_39 (h : c_kd c = 39) {j : Nat} (hj : j < 50) : aI (mkC F A B r) 2 c (nI j) = some (A c j) := hs_aI (car_39 h) hj (by decide)
theorem cs_39 (h : c_kd c = 39) {j : Nat} (hj : j < 50) (x : Int32) : sI (mkC F A B r) 2 c (nI j) x = some (mkC F (va_up A c (upd (A c) j (hs_nar 2 x))) B r) := by
  rw [hs_sI (car_39 h) hj (by decide)]
  refine congrArg some (mkC_A F A B r c _ ?_)
  unfold c_el; rw [h]; rfl
theorem car_40 (h : c_kd c = 40) : hs_r (mkC F A B r) 4 c = some (50, .inl (A c)) := by
  have hlt := c_lt h (by decide)
  unfold hs_r
  rw [if_pos (show c < (mkC F A B r).1 from hlt)]
  show (match c_el c (F c) (A c) (B c) r with | .inl x => if x.1 = 4 then some x.2 else none | .inr _ => none) = _
  unfold c_el
  rw [h]
  rfl
theorem ca_40 (h : c_kd c = 40) {j : Nat} (hj : j < 50) : aI (mkC F A B r) 4 c (nI j) = some (A c j) := hs_aI (car_40 h) hj (by decide)
theorem cs_40 (h : c_kd c = 40) {j : Nat} (hj : j < 50) (x : Int32) : sI (mkC F A B r) 4 c (nI j) x = some (mkC F (va_up A c (upd (A c) j (hs_nar 4 x))) B r) := by
  rw [hs_sI (car_40 h) hj (by decide)]
  refine congrArg some (mkC_A F A B r c _ ?_)
  unfold c_el; rw [h]; rfl
theorem car_41 (h : c_kd c = 41) : hs_r (mkC F A B r) 4 c = some (3, .inl (A c)) := by
  have hlt := c_lt h (by decide)
  unfold hs_r
  rw [if_pos (show c < (mkC F A B r).1 from hlt)]
  show (match c_el c (F c) (A c) (B c) r with | .inl x => if x.1 = 4 then some x.2 else none | .inr _ => none) = _
  unfold c_el
  rw [h]
  rfl
theorem ca_41 (h : c_kd c = 41) {j : Nat} (hj : j < 3) : aI (mkC F A B r) 4 c (nI j) = some (A c j) := hs_aI (car_41 h) hj (by decide)
theorem cs_41 (h : c_kd c = 41) {j : Nat} (hj : j < 3) (x : Int32) : sI (mkC F A B r) 4 c (nI j) x = some (mkC F (va_up A c (upd (A c) j (hs_nar 4 x))) B r) := by
  rw [hs_sI (car_41 h) hj (by decide)]
  refine congrArg some (mkC_A F A B r c _ ?_)
  unfold c_el; rw [h]; rfl
theorem car_42 (h : c_kd c = 42) : hs_r (mkC F A B r) 2 c = some (64, .inl (A c)) := by
  have hlt := c_lt h (by decide)
  unfold hs_r
  rw [if_pos (show c < (mkC F A B r).1 from hlt)]
  show (match c_el c (F c) (A c) (B c) r with | .inl x => if x.1 = 2 then some x.2 else none | .inr _ => none) = _
  unfold c_el
  rw [h]
  rfl
theorem ca_42 (h : c_kd c = 42) {j : Nat} (hj : j < 64) : aI (mkC F A B r) 2 c (nI j) = some (A c j) := hs_aI (car_42 h) hj (by decide)
theorem cs_42 (h : c_kd c = 42) {j : Nat} (hj : j < 64) (x : Int32) : sI (mkC F A B r) 2 c (nI j) x = some (mkC F (va_up A c (upd (A c) j (hs_nar 2 x))) B r) := by
  rw [hs_sI (car_42 h) hj (by decide)]
  refine congrArg some (mkC_A F A B r c _ ?_)
  unfold c_el; rw [h]; rfl
theorem car_20 (h : c_kd c = 20) {j : Nat} (hj : j < 3) : aR (mkC F A B r) 5 c (nI j) = some (57 + 4 * j) := by
  have hlt := c_lt h (by decide)
  refine (hs_aR (n := 3) (f := fun j => if j < 3 then some (57 + 4 * j) else none) ?_ hj (by decide)).trans (if_pos hj)
  unfold hs_r
  rw [if_pos (show c < (mkC F A B r).1 from hlt)]
  show (match c_el c (F c) (A c) (B c) r with | .inl x => if x.1 = 5 then some x.2 else none | .inr _ => none) = _
  unfold c_el
  rw [h]
  rfl
theorem car_21 (h : c_kd c = 21) {j : Nat} (hj : j < 6) : aR (mkC F A B r) 7 c (nI j) = some (75 + 8 * j) := by
  have hlt := c_lt h (by decide)
  refine (hs_aR (n := 6) (f := fun j => if j < 6 then some (75 + 8 * j) else none) ?_ hj (by decide)).trans (if_pos hj)
  unfold hs_r
  rw [if_pos (show c < (mkC F A B r).1 from hlt)]
  show (match c_el c (F c) (A c) (B c) r with | .inl x => if x.1 = 7 then some x.2 else none | .inr _ => none) = _
  unfold c_el
  rw [h]
  rfl
theorem car_22 (h : c_kd c = 22) {j : Nat} (hj : j < 64) : aR (mkC F A B r) 6 c (nI j) = some (127 + j) := by
  have hlt := c_lt h (by decide)
  refine (hs_aR (n := 64) (f := fun j => if j < 64 then some (127 + j) else none) ?_ hj (by decide)).trans (if_pos hj)
  unfold hs_r
  rw [if_pos (show c < (mkC F A B r).1 from hlt)]
  show (match c_el c (F c) (A c) (B c) r with | .inl x => if x.1 = 6 then some x.2 else none | .inr _ => none) = _
  unfold c_el
  rw [h]
  rfl
theorem c_el_r {k : Nat} {r r' : Nat → Nat} (f a : Nat → Int32) (b : Nat → Int64) (h0 : c_kd k = 11 → r 0 = r' 0 ∧ r 1 = r' 1) (h1 : c_kd k = 3 → r 2 = r' 2) (h2 : c_kd k = 0 → r 3 = r' 3 ∧ r 4 = r' 4) : c_el k f a b r = c_el k f a b r' := by
  unfold c_el
  by_cases k0 : c_kd k = 0
  · rw [if_pos k0, if_pos k0]; unfold c_fs0; rw [(h2 k0).1, (h2 k0).2]
  rw [if_neg k0, if_neg k0]
  by_cases k1 : c_kd k = 1
  · rw [if_pos k1, if_pos k1]; rfl
  rw [if_neg k1, if_neg k1]
  by_cases k2 : c_kd k = 2
  · rw [if_pos k2, if_pos k2]; rfl
  rw [if_neg k2, if_neg k2]
  by_cases k3 : c_kd k = 3
  · rw [if_pos k3, if_pos k3]; unfold c_fs3; rw [h1 k3]
  rw [if_neg k3, if_neg k3]
  by_cases k4 : c_kd k = 4
  · rw [if_pos k4, if_pos k4]; rfl
  rw [if_neg k4, if_neg k4]
  by_cases k5 : c_kd k = 5
  · rw [if_pos k5, if_pos k5]; rfl
  rw [if_neg k5, if_neg k5]
  by_cases k6 : c_kd k = 6
  · rw [if_pos k6, if_pos k6]; rfl
  rw [if_neg k6, if_neg k6]
  by_cases k7 : c_kd k = 7
  · rw [if_pos k7, if_pos k7]; rfl
  rw [if_neg k7, if_neg k7]
  by_cases k8 : c_kd k = 8
  · rw [if_pos k8, if_pos k8]; rfl
  rw [if_neg k8, if_neg k8]
  by_cases k9 : c_kd k = 9
  · rw [if_pos k9, if_pos k9]; rfl
  rw [if_neg k9, if_neg k9]
  by_cases k10 : c_kd k = 10
  · rw [if_pos k10, if_pos k10]; rfl
  rw [if_neg k10, if_neg k10]
  by_cases k11 : c_kd k = 11
  · rw [if_pos k11, if_pos k11]; unfold c_fs11; rw [(h0 k11).1, (h0 k11).2]
  rw [if_neg k11, if_neg k11]
theorem c_u11 : ∀ k, k < 193 → c_kd k = 11 → k = 0 := by decide +kernel
theorem c_u3 : ∀ k, k < 193 → c_kd k = 3 → k = 37 := by decide +kernel
theorem c_u0 : ∀ k, k < 193 → c_kd k = 0 → k = 46 := by decide +kernel
theorem cq11_3 (v : Nat) : pV (mkC F A B r) 11 0 3 (.ref v) = some (mkC F A B (va_up r 0 v)) := by
  unfold pV
  rw [cob_11 (c := 0) rfl]
  refine congrArg some ?_
  refine congrArg (Prod.mk 193) ?_
  funext j
  by_cases hj : j = 0
  · subst hj; rfl
  · rw [va_up, if_neg hj]
    exact c_el_r _ _ _ (fun h => absurd (c_u11 j (c_lt h (by decide)) h) hj) (fun _ => rfl) (fun _ => ⟨rfl, rfl⟩)
theorem cq11_4 (v : Nat) : pV (mkC F A B r) 11 0 4 (.ref v) = some (mkC F A B (va_up r 1 v)) := by
  unfold pV
  rw [cob_11 (c := 0) rfl]
  refine congrArg some ?_
  refine congrArg (Prod.mk 193) ?_
  funext j
  by_cases hj : j = 0
  · subst hj; rfl
  · rw [va_up, if_neg hj]
    exact c_el_r _ _ _ (fun h => absurd (c_u11 j (c_lt h (by decide)) h) hj) (fun _ => rfl) (fun _ => ⟨rfl, rfl⟩)
theorem cq3_1 (v : Nat) : pV (mkC F A B r) 3 37 1 (.ref v) = some (mkC F A B (va_up r 2 v)) := by
  unfold pV
  rw [cob_3 (c := 37) rfl]
  refine congrArg some ?_
  refine congrArg (Prod.mk 193) ?_
  funext j
  by_cases hj : j = 37
  · subst hj; rfl
  · rw [va_up, if_neg hj]
    exact c_el_r _ _ _ (fun _ => ⟨rfl, rfl⟩) (fun h => absurd (c_u3 j (c_lt h (by decide)) h) hj) (fun _ => ⟨rfl, rfl⟩)
theorem cq0_0 (v : Nat) : pV (mkC F A B r) 0 46 0 (.ref v) = some (mkC F A B (va_up r 3 v)) := by
  unfold pV
  rw [cob_0 (c := 46) rfl]
  refine congrArg some ?_
  refine congrArg (Prod.mk 193) ?_
  funext j
  by_cases hj : j = 46
  · subst hj; rfl
  · rw [va_up, if_neg hj]
    exact c_el_r _ _ _ (fun _ => ⟨rfl, rfl⟩) (fun _ => rfl) (fun h => absurd (c_u0 j (c_lt h (by decide)) h) hj)
theorem cq0_1 (v : Nat) : pV (mkC F A B r) 0 46 1 (.ref v) = some (mkC F A B (va_up r 4 v)) := by
  unfold pV
  rw [cob_0 (c := 46) rfl]
  refine congrArg some ?_
  refine congrArg (Prod.mk 193) ?_
  funext j
  by_cases hj : j = 46
  · subst hj; rfl
  · rw [va_up, if_neg hj]
    exact c_el_r _ _ _ (fun _ => ⟨rfl, rfl⟩) (fun _ => rfl) (fun h => absurd (c_u0 j (c_lt h (by decide)) h) hj)
end CB
