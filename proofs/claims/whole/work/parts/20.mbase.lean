/-! ===== reading and writing at a place ===== -/
theorem hs_cl {j n : Nat} (h : j < n) (hn : n < 2 ^ 31) : ¬ (nI j < 0 ∨ n ≤ (nI j).toNatClampNeg) := by
  rw [nI_clamp (by omega)]
  exact fun z => z.elim (nI_pos (by omega)) (fun q => by omega)
theorem hs_aI {σ : Sto} {t c n j : Nat} {f : Nat → Int32} (hr : hs_r σ t c = some (n, .inl f)) (h : j < n) (hn : n < 2 ^ 31) : aI σ t c (nI j) = some (f j) := by
  unfold aI
  rw [hr]
  dsimp only
  rw [if_neg (hs_cl h hn), nI_clamp (by omega)]
theorem hs_aL {σ : Sto} {t c n j : Nat} {f : Nat → Int64} (hr : hs_r σ t c = some (n, .inr (.inl f))) (h : j < n) (hn : n < 2 ^ 31) : aL σ t c (nI j) = some (f j) := by
  unfold aL
  rw [hr]
  dsimp only
  rw [if_neg (hs_cl h hn), nI_clamp (by omega)]
theorem hs_aR {σ : Sto} {t c n j : Nat} {f : Nat → Option Nat} (hr : hs_r σ t c = some (n, .inr (.inr (.inr (.inr f))))) (h : j < n) (hn : n < 2 ^ 31) : aR σ t c (nI j) = f j := by
  unfold aR
  rw [hr]
  dsimp only
  rw [if_neg (hs_cl h hn), nI_clamp (by omega)]
theorem hs_sI {σ : Sto} {t c n j : Nat} {f : Nat → Int32} (hr : hs_r σ t c = some (n, .inl f)) (h : j < n) (hn : n < 2 ^ 31) (x : Int32) : sI σ t c (nI j) x = some (σ.1, va_up σ.2 c (.inl (t, n, .inl (upd f j (hs_nar t x))))) := by
  unfold sI
  rw [hr]
  dsimp only
  rw [if_neg (hs_cl h hn), nI_clamp (by omega)]
theorem hs_sL {σ : Sto} {t c n j : Nat} {f : Nat → Int64} (hr : hs_r σ t c = some (n, .inr (.inl f))) (h : j < n) (hn : n < 2 ^ 31) (x : Int64) : sL σ t c (nI j) x = some (σ.1, va_up σ.2 c (.inl (t, n, .inr (.inl (vp_updL f j x))))) := by
  unfold sL
  rw [hr]
  dsimp only
  rw [if_neg (hs_cl h hn), nI_clamp (by omega)]
theorem hs_nar2 (x : Int32) : hs_nar 2 x = x := rfl
/-! ===== the model's store as functions ===== -/
def m_fs (f : Nat → Int32) (b : Nat → Int64) : List Value := [.int (f 0), .ref 1, .int (f 2), .ref 2, .int (f 4), .ref 3, .ref 4, .ref 5, .ref 6, .ref 7, .int (f 10), .int (f 11), .int (f 12), .int (f 13), .int (f 14), .int (f 15), .int (f 16), .int (f 17), .int (f 18), .int (f 19), .int (f 20), .ref 8, .ref 9, .ref 10, .ref 11, .ref 12, .ref 13, .ref 14, .ref 15, .ref 16, .ref 17, .ref 18, .ref 19, .int (f 33), .ref 20, .ref 21, .ref 22, .ref 23, .ref 24, .int (f 39), .ref 25, .ref 26, .ref 27, .int (f 43), .ref 28, .ref 29, .int (f 46), .ref 30, .ref 31, .int (f 49), .int (f 50), .int (f 51), .ref 32, .ref 33, .ref 34, .int (f 55), .ref 35, .ref 36, .long (b 58), .long (b 59), .int (f 60), .ref 37, .int (f 62), .ref 38, .ref 39, .ref 40, .ref 41, .ref 42, .ref 43]
def m_ty : Nat → Nat := fun k => [9, 0, 0, 2, 2, 2, 3, 3, 3, 2, 2, 2, 2, 2, 2, 2, 2, 2, 2, 2, 4, 2, 2, 2, 2, 2, 2, 2, 2, 2, 2, 2, 2, 3, 3, 2, 2, 2, 2, 4, 2, 2, 4, 2].getD k 9
def m_len : Nat → Nat := fun k => [0, 2000, 2000, 403, 403, 403, 403, 16, 6, 2, 12, 12, 2, 2, 12, 12, 12, 40, 12, 12, 260, 260, 260, 260, 260, 840, 840, 64, 5, 400, 20, 20, 6, 6, 6, 1000, 64, 6, 120, 6, 6, 6, 3, 60].getD k 0
def m_el (k : Nat) (f : Nat → Int32) (a : Nat → Int32) (b : Nat → Int64) : PC := if k = 0 then .inr (12, m_fs f b) else if m_ty k = 9 then .inr (99, []) else if m_ty k = 3 then .inl (3, m_len k, .inr (.inl b)) else .inl (m_ty k, m_len k, .inl a)
def mkM (F : Nat → Int32) (A : Nat → Nat → Int32) (B : Nat → Nat → Int64) : Sto := (44, fun k => m_el k F (A k) (B k))
theorem mkM_F (F F' : Nat → Int32) (A : Nat → Nat → Int32) (B : Nat → Nat → Int64) : (44, va_up (mkM F A B).2 0 (.inr (12, m_fs F' (B 0)))) = mkM F' A B := by
  unfold mkM
  congr 1
  funext j
  unfold va_up
  by_cases hj : j = 0
  · rw [if_pos hj]; subst hj; rfl
  · rw [if_neg hj]; simp only [m_el, if_neg hj]
theorem mkM_L (F : Nat → Int32) (A : Nat → Nat → Int32) (B : Nat → Nat → Int64) (g : Nat → Int64) : (44, va_up (mkM F A B).2 0 (.inr (12, m_fs F g))) = mkM F A (va_up B 0 g) := by
  unfold mkM
  congr 1
  funext j
  unfold va_up
  by_cases hj : j = 0
  · rw [if_pos hj]; subst hj; rfl
  · rw [if_neg hj, if_neg hj]
theorem mkM_A (F : Nat → Int32) (A : Nat → Nat → Int32) (B : Nat → Nat → Int64) (c : Nat) (g : Nat → Int32) (h0 : ¬ c = 0) (h9 : ¬ m_ty c = 9) (h3 : ¬ m_ty c = 3) : (44, va_up (mkM F A B).2 c (.inl (m_ty c, m_len c, .inl g))) = mkM F (va_up A c g) B := by
  unfold mkM
  congr 1
  funext j
  unfold va_up
  by_cases hj : j = c
  · subst hj
    rw [if_pos rfl]
    simp only [m_el, if_neg h0, if_neg h9, if_neg h3, if_pos]
  · rw [if_neg hj, if_neg hj]
theorem mkM_B (F : Nat → Int32) (A : Nat → Nat → Int32) (B : Nat → Nat → Int64) (c : Nat) (g : Nat → Int64) (h0 : ¬ c = 0) (h9 : ¬ m_ty c = 9) (h3 : m_ty c = 3) : (44, va_up (mkM F A B).2 c (.inl (3, m_len c, .inr (.inl g)))) = mkM F A (va_up B c g) := by
  unfold mkM
  congr 1
  funext j
  unfold va_up
  by_cases hj : j = c
  · subst hj
    rw [if_pos rfl]
    simp only [m_el, if_neg h0, if_neg h9, if_pos h3, if_pos]
  · rw [if_neg hj, if_neg hj]
section MB
variable (F : Nat → Int32) (A : Nat → Nat → Int32) (B : Nat → Nat → Int64)
theorem mck {α : Type} (X : Option α) : ck (mkM F A B) 12 0 X = X := rfl
theorem mg_0 : gI (mkM F A B) 12 0 0 = some (F 0) := rfl
theorem mp_0 (v : Int32) : pV (mkM F A B) 12 0 0 (.int v) = some (mkM (upd F 0 v) A B) := congrArg some (mkM_F F (upd F 0 v) A B)
theorem mr_1 : gR (mkM F A B) 12 0 1 = some 1 := rfl
theorem mg_2 : gI (mkM F A B) 12 0 2 = some (F 2) := rfl
theorem mp_2 (v : Int32) : pV (mkM F A B) 12 0 2 (.int v) = some (mkM (upd F 2 v) A B) := congrArg some (mkM_F F (upd F 2 v) A B)
theorem mr_3 : gR (mkM F A B) 12 0 3 = some 2 := rfl
theorem mg_4 : gI (mkM F A B) 12 0 4 = some (F 4) := rfl
theorem mp_4 (v : Int32) : pV (mkM F A B) 12 0 4 (.int v) = some (mkM (upd F 4 v) A B) := congrArg some (mkM_F F (upd F 4 v) A B)
theorem mr_5 : gR (mkM F A B) 12 0 5 = some 3 := rfl
theorem mr_6 : gR (mkM F A B) 12 0 6 = some 4 := rfl
theorem mr_7 : gR (mkM F A B) 12 0 7 = some 5 := rfl
theorem mr_8 : gR (mkM F A B) 12 0 8 = some 6 := rfl
theorem mr_9 : gR (mkM F A B) 12 0 9 = some 7 := rfl
theorem mg_10 : gI (mkM F A B) 12 0 10 = some (F 10) := rfl
theorem mp_10 (v : Int32) : pV (mkM F A B) 12 0 10 (.int v) = some (mkM (upd F 10 v) A B) := congrArg some (mkM_F F (upd F 10 v) A B)
theorem mg_11 : gI (mkM F A B) 12 0 11 = some (F 11) := rfl
theorem mp_11 (v : Int32) : pV (mkM F A B) 12 0 11 (.int v) = some (mkM (upd F 11 v) A B) := congrArg some (mkM_F F (upd F 11 v) A B)
theorem mg_12 : gI (mkM F A B) 12 0 12 = some (F 12) := rfl
theorem mp_12 (v : Int32) : pV (mkM F A B) 12 0 12 (.int v) = some (mkM (upd F 12 v) A B) := congrArg some (mkM_F F (upd F 12 v) A B)
theorem mg_13 : gI (mkM F A B) 12 0 13 = some (F 13) := rfl
theorem mp_13 (v : Int32) : pV (mkM F A B) 12 0 13 (.int v) = some (mkM (upd F 13 v) A B) := congrArg some (mkM_F F (upd F 13 v) A B)
theorem mg_14 : gI (mkM F A B) 12 0 14 = some (F 14) := rfl
theorem mp_14 (v : Int32) : pV (mkM F A B) 12 0 14 (.int v) = some (mkM (upd F 14 v) A B) := congrArg some (mkM_F F (upd F 14 v) A B)
theorem mg_15 : gI (mkM F A B) 12 0 15 = some (F 15) := rfl
theorem mp_15 (v : Int32) : pV (mkM F A B) 12 0 15 (.int v) = some (mkM (upd F 15 v) A B) := congrArg some (mkM_F F (upd F 15 v) A B)
theorem mg_16 : gI (mkM F A B) 12 0 16 = some (F 16) := rfl
theorem mp_16 (v : Int32) : pV (mkM F A B) 12 0 16 (.int v) = some (mkM (upd F 16 v) A B) := congrArg some (mkM_F F (upd F 16 v) A B)
theorem mg_17 : gI (mkM F A B) 12 0 17 = some (F 17) := rfl
theorem mp_17 (v : Int32) : pV (mkM F A B) 12 0 17 (.int v) = some (mkM (upd F 17 v) A B) := congrArg some (mkM_F F (upd F 17 v) A B)
theorem mg_18 : gI (mkM F A B) 12 0 18 = some (F 18) := rfl
theorem mp_18 (v : Int32) : pV (mkM F A B) 12 0 18 (.int v) = some (mkM (upd F 18 v) A B) := congrArg some (mkM_F F (upd F 18 v) A B)
theorem mg_19 : gI (mkM F A B) 12 0 19 = some (F 19) := rfl
theorem mp_19 (v : Int32) : pV (mkM F A B) 12 0 19 (.int v) = some (mkM (upd F 19 v) A B) := congrArg some (mkM_F F (upd F 19 v) A B)
theorem mg_20 : gI (mkM F A B) 12 0 20 = some (F 20) := rfl
theorem mp_20 (v : Int32) : pV (mkM F A B) 12 0 20 (.int v) = some (mkM (upd F 20 v) A B) := congrArg some (mkM_F F (upd F 20 v) A B)
theorem mr_21 : gR (mkM F A B) 12 0 21 = some 8 := rfl
theorem mr_22 : gR (mkM F A B) 12 0 22 = some 9 := rfl
theorem mr_23 : gR (mkM F A B) 12 0 23 = some 10 := rfl
theorem mr_24 : gR (mkM F A B) 12 0 24 = some 11 := rfl
theorem mr_25 : gR (mkM F A B) 12 0 25 = some 12 := rfl
theorem mr_26 : gR (mkM F A B) 12 0 26 = some 13 := rfl
theorem mr_27 : gR (mkM F A B) 12 0 27 = some 14 := rfl
theorem mr_28 : gR (mkM F A B) 12 0 28 = some 15 := rfl
theorem mr_29 : gR (mkM F A B) 12 0 29 = some 16 := rfl
theorem mr_30 : gR (mkM F A B) 12 0 30 = some 17 := rfl
theorem mr_31 : gR (mkM F A B) 12 0 31 = some 18 := rfl
theorem mr_32 : gR (mkM F A B) 12 0 32 = some 19 := rfl
theorem mg_33 : gI (mkM F A B) 12 0 33 = some (F 33) := rfl
theorem mp_33 (v : Int32) : pV (mkM F A B) 12 0 33 (.int v) = some (mkM (upd F 33 v) A B) := congrArg some (mkM_F F (upd F 33 v) A B)
theorem mr_34 : gR (mkM F A B) 12 0 34 = some 20 := rfl
theorem mr_35 : gR (mkM F A B) 12 0 35 = some 21 := rfl
theorem mr_36 : gR (mkM F A B) 12 0 36 = some 22 := rfl
theorem mr_37 : gR (mkM F A B) 12 0 37 = some 23 := rfl
theorem mr_38 : gR (mkM F A B) 12 0 38 = some 24 := rfl
theorem mg_39 : gI (mkM F A B) 12 0 39 = some (F 39) := rfl
theorem mp_39 (v : Int32) : pV (mkM F A B) 12 0 39 (.int v) = some (mkM (upd F 39 v) A B) := congrArg some (mkM_F F (upd F 39 v) A B)
theorem mr_40 : gR (mkM F A B) 12 0 40 = some 25 := rfl
theorem mr_41 : gR (mkM F A B) 12 0 41 = some 26 := rfl
theorem mr_42 : gR (mkM F A B) 12 0 42 = some 27 := rfl
theorem mg_43 : gI (mkM F A B) 12 0 43 = some (F 43) := rfl
theorem mp_43 (v : Int32) : pV (mkM F A B) 12 0 43 (.int v) = some (mkM (upd F 43 v) A B) := congrArg some (mkM_F F (upd F 43 v) A B)
theorem mr_44 : gR (mkM F A B) 12 0 44 = some 28 := rfl
theorem mr_45 : gR (mkM F A B) 12 0 45 = some 29 := rfl
theorem mg_46 : gI (mkM F A B) 12 0 46 = some (F 46) := rfl
theorem mp_46 (v : Int32) : pV (mkM F A B) 12 0 46 (.int v) = some (mkM (upd F 46 v) A B) := congrArg some (mkM_F F (upd F 46 v) A B)
theorem mr_47 : gR (mkM F A B) 12 0 47 = some 30 := rfl
theorem mr_48 : gR (mkM F A B) 12 0 48 = some 31 := rfl
theorem mg_49 : gI (mkM F A B) 12 0 49 = some (F 49) := rfl
theorem mp_49 (v : Int32) : pV (mkM F A B) 12 0 49 (.int v) = some (mkM (upd F 49 v) A B) := congrArg some (mkM_F F (upd F 49 v) A B)
theorem mg_50 : gI (mkM F A B) 12 0 50 = some (F 50) := rfl
theorem mp_50 (v : Int32) : pV (mkM F A B) 12 0 50 (.int v) = some (mkM (upd F 50 v) A B) := congrArg some (mkM_F F (upd F 50 v) A B)
theorem mg_51 : gI (mkM F A B) 12 0 51 = some (F 51) := rfl
theorem mp_51 (v : Int32) : pV (mkM F A B) 12 0 51 (.int v) = some (mkM (upd F 51 v) A B) := congrArg some (mkM_F F (upd F 51 v) A B)
theorem mr_52 : gR (mkM F A B) 12 0 52 = some 32 := rfl
theorem mr_53 : gR (mkM F A B) 12 0 53 = some 33 := rfl
theorem mr_54 : gR (mkM F A B) 12 0 54 = some 34 := rfl
theorem mg_55 : gI (mkM F A B) 12 0 55 = some (F 55) := rfl
theorem mp_55 (v : Int32) : pV (mkM F A B) 12 0 55 (.int v) = some (mkM (upd F 55 v) A B) := congrArg some (mkM_F F (upd F 55 v) A B)
theorem mr_56 : gR (mkM F A B) 12 0 56 = some 35 := rfl
theorem mr_57 : gR (mkM F A B) 12 0 57 = some 36 := rfl
theorem mg_58 : gL (mkM F A B) 12 0 58 = some (B 0 58) := rfl
theorem mp_58 (v : Int64) : pV (mkM F A B) 12 0 58 (.long v) = some (mkM F A (va_up B 0 (vp_updL (B 0) 58 v))) := congrArg some (mkM_L F A B (vp_updL (B 0) 58 v))
theorem mg_59 : gL (mkM F A B) 12 0 59 = some (B 0 59) := rfl
theorem mp_59 (v : Int64) : pV (mkM F A B) 12 0 59 (.long v) = some (mkM F A (va_up B 0 (vp_updL (B 0) 59 v))) := congrArg some (mkM_L F A B (vp_updL (B 0) 59 v))
theorem mg_60 : gI (mkM F A B) 12 0 60 = some (F 60) := rfl
theorem mp_60 (v : Int32) : pV (mkM F A B) 12 0 60 (.int v) = some (mkM (upd F 60 v) A B) := congrArg some (mkM_F F (upd F 60 v) A B)
theorem mr_61 : gR (mkM F A B) 12 0 61 = some 37 := rfl
theorem mg_62 : gI (mkM F A B) 12 0 62 = some (F 62) := rfl
theorem mp_62 (v : Int32) : pV (mkM F A B) 12 0 62 (.int v) = some (mkM (upd F 62 v) A B) := congrArg some (mkM_F F (upd F 62 v) A B)
theorem mr_63 : gR (mkM F A B) 12 0 63 = some 38 := rfl
theorem mr_64 : gR (mkM F A B) 12 0 64 = some 39 := rfl
theorem mr_65 : gR (mkM F A B) 12 0 65 = some 40 := rfl
theorem mr_66 : gR (mkM F A B) 12 0 66 = some 41 := rfl
theorem mr_67 : gR (mkM F A B) 12 0 67 = some 42 := rfl
theorem mr_68 : gR (mkM F A B) 12 0 68 = some 43 := rfl
theorem ma_1 {j : Nat} (h : j < 2000) : aI (mkM F A B) 0 1 (nI j) = some (A 1 j) := hs_aI rfl h (by decide)
theorem ms_1 {j : Nat} (h : j < 2000) (x : Int32) : sI (mkM F A B) 0 1 (nI j) x = some (mkM F (va_up A 1 (upd (A 1) j (hs_nar 0 x))) B) := (hs_sI (n := 2000) (f := A 1) rfl h (by decide) x).trans (congrArg some (mkM_A F A B 1 _ (by decide) (by decide) (by decide)))
theorem ma_2 {j : Nat} (h : j < 2000) : aI (mkM F A B) 0 2 (nI j) = some (A 2 j) := hs_aI rfl h (by decide)
theorem ms_2 {j : Nat} (h : j < 2000) (x : Int32) : sI (mkM F A B) 0 2 (nI j) x = some (mkM F (va_up A 2 (upd (A 2) j (hs_nar 0 x))) B) := (hs_sI (n := 2000) (f := A 2) rfl h (by decide) x).trans (congrArg some (mkM_A F A B 2 _ (by decide) (by decide) (by decide)))
theorem ma_3 {j : Nat} (h : j < 403) : aI (mkM F A B) 2 3 (nI j) = some (A 3 j) := hs_aI rfl h (by decide)
theorem ms_3 {j : Nat} (h : j < 403) (x : Int32) : sI (mkM F A B) 2 3 (nI j) x = some (mkM F (va_up A 3 (upd (A 3) j (hs_nar 2 x))) B) := (hs_sI (n := 403) (f := A 3) rfl h (by decide) x).trans (congrArg some (mkM_A F A B 3 _ (by decide) (by decide) (by decide)))
theorem ma_4 {j : Nat} (h : j < 403) : aI (mkM F A B) 2 4 (nI j) = some (A 4 j) := hs_aI rfl h (by decide)
theorem ms_4 {j : Nat} (h : j < 403) (x : Int32) : sI (mkM F A B) 2 4 (nI j) x = some (mkM F (va_up A 4 (upd (A 4) j (hs_nar 2 x))) B) := (hs_sI (n := 403) (f := A 4) rfl h (by decide) x).trans (congrArg some (mkM_A F A B 4 _ (by decide) (by decide) (by decide)))
theorem ma_5 {j : Nat} (h : j < 403) : aI (mkM F A B) 2 5 (nI j) = some (A 5 j) := hs_aI rfl h (by decide)
theorem ms_5 {j : Nat} (h : j < 403) (x : Int32) : sI (mkM F A B) 2 5 (nI j) x = some (mkM F (va_up A 5 (upd (A 5) j (hs_nar 2 x))) B) := (hs_sI (n := 403) (f := A 5) rfl h (by decide) x).trans (congrArg some (mkM_A F A B 5 _ (by decide) (by decide) (by decide)))
theorem ma_6 {j : Nat} (h : j < 403) : aL (mkM F A B) 3 6 (nI j) = some (B 6 j) := hs_aL rfl h (by decide)
theorem ms_6 {j : Nat} (h : j < 403) (x : Int64) : sL (mkM F A B) 3 6 (nI j) x = some (mkM F A (va_up B 6 (vp_updL (B 6) j x))) := (hs_sL (n := 403) (f := B 6) rfl h (by decide) x).trans (congrArg some (mkM_B F A B 6 _ (by decide) (by decide) (by decide)))
theorem ma_7 {j : Nat} (h : j < 16) : aL (mkM F A B) 3 7 (nI j) = some (B 7 j) := hs_aL rfl h (by decide)
theorem ms_7 {j : Nat} (h : j < 16) (x : Int64) : sL (mkM F A B) 3 7 (nI j) x = some (mkM F A (va_up B 7 (vp_updL (B 7) j x))) := (hs_sL (n := 16) (f := B 7) rfl h (by decide) x).trans (congrArg some (mkM_B F A B 7 _ (by decide) (by decide) (by decide)))
theorem ma_8 {j : Nat} (h : j < 6) : aL (mkM F A B) 3 8 (nI j) = some (B 8 j) := hs_aL rfl h (by decide)
theorem ms_8 {j : Nat} (h : j < 6) (x : Int64) : sL (mkM F A B) 3 8 (nI j) x = some (mkM F A (va_up B 8 (vp_updL (B 8) j x))) := (hs_sL (n := 6) (f := B 8) rfl h (by decide) x).trans (congrArg some (mkM_B F A B 8 _ (by decide) (by decide) (by decide)))
theorem ma_9 {j : Nat} (h : j < 2) : aI (mkM F A B) 2 9 (nI j) = some (A 9 j) := hs_aI rfl h (by decide)
theorem ms_9 {j : Nat} (h : j < 2) (x : Int32) : sI (mkM F A B) 2 9 (nI j) x = some (mkM F (va_up A 9 (upd (A 9) j (hs_nar 2 x))) B) := (hs_sI (n := 2) (f := A 9) rfl h (by decide) x).trans (congrArg some (mkM_A F A B 9 _ (by decide) (by decide) (by decide)))
theorem ma_10 {j : Nat} (h : j < 12) : aI (mkM F A B) 2 10 (nI j) = some (A 10 j) := hs_aI rfl h (by decide)
theorem ms_10 {j : Nat} (h : j < 12) (x : Int32) : sI (mkM F A B) 2 10 (nI j) x = some (mkM F (va_up A 10 (upd (A 10) j (hs_nar 2 x))) B) := (hs_sI (n := 12) (f := A 10) rfl h (by decide) x).trans (congrArg some (mkM_A F A B 10 _ (by decide) (by decide) (by decide)))
theorem ma_11 {j : Nat} (h : j < 12) : aI (mkM F A B) 2 11 (nI j) = some (A 11 j) := hs_aI rfl h (by decide)
theorem ms_11 {j : Nat} (h : j < 12) (x : Int32) : sI (mkM F A B) 2 11 (nI j) x = some (mkM F (va_up A 11 (upd (A 11) j (hs_nar 2 x))) B) := (hs_sI (n := 12) (f := A 11) rfl h (by decide) x).trans (congrArg some (mkM_A F A B 11 _ (by decide) (by decide) (by decide)))
theorem ma_12 {j : Nat} (h : j < 2) : aI (mkM F A B) 2 12 (nI j) = some (A 12 j) := hs_aI rfl h (by decide)
theorem ms_12 {j : Nat} (h : j < 2) (x : Int32) : sI (mkM F A B) 2 12 (nI j) x = some (mkM F (va_up A 12 (upd (A 12) j (hs_nar 2 x))) B) := (hs_sI (n := 2) (f := A 12) rfl h (by decide) x).trans (congrArg some (mkM_A F A B 12 _ (by decide) (by decide) (by decide)))
theorem ma_13 {j : Nat} (h : j < 2) : aI (mkM F A B) 2 13 (nI j) = some (A 13 j) := hs_aI rfl h (by decide)
theorem ms_13 {j : Nat} (h : j < 2) (x : Int32) : sI (mkM F A B) 2 13 (nI j) x = some (mkM F (va_up A 13 (upd (A 13) j (hs_nar 2 x))) B) := (hs_sI (n := 2) (f := A 13) rfl h (by decide) x).trans (congrArg some (mkM_A F A B 13 _ (by decide) (by decide) (by decide)))
theorem ma_14 {j : Nat} (h : j < 12) : aI (mkM F A B) 2 14 (nI j) = some (A 14 j) := hs_aI rfl h (by decide)
theorem ms_14 {j : Nat} (h : j < 12) (x : Int32) : sI (mkM F A B) 2 14 (nI j) x = some (mkM F (va_up A 14 (upd (A 14) j (hs_nar 2 x))) B) := (hs_sI (n := 12) (f := A 14) rfl h (by decide) x).trans (congrArg some (mkM_A F A B 14 _ (by decide) (by decide) (by decide)))
theorem ma_15 {j : Nat} (h : j < 12) : aI (mkM F A B) 2 15 (nI j) = some (A 15 j) := hs_aI rfl h (by decide)
theorem ms_15 {j : Nat} (h : j < 12) (x : Int32) : sI (mkM F A B) 2 15 (nI j) x = some (mkM F (va_up A 15 (upd (A 15) j (hs_nar 2 x))) B) := (hs_sI (n := 12) (f := A 15) rfl h (by decide) x).trans (congrArg some (mkM_A F A B 15 _ (by decide) (by decide) (by decide)))
theorem ma_16 {j : Nat} (h : j < 12) : aI (mkM F A B) 2 16 (nI j) = some (A 16 j) := hs_aI rfl h (by decide)
theorem ms_16 {j : Nat} (h : j < 12) (x : Int32) : sI (mkM F A B) 2 16 (nI j) x = some (mkM F (va_up A 16 (upd (A 16) j (hs_nar 2 x))) B) := (hs_sI (n := 12) (f := A 16) rfl h (by decide) x).trans (congrArg some (mkM_A F A B 16 _ (by decide) (by decide) (by decide)))
theorem ma_17 {j : Nat} (h : j < 40) : aI (mkM F A B) 2 17 (nI j) = some (A 17 j) := hs_aI rfl h (by decide)
theorem ms_17 {j : Nat} (h : j < 40) (x : Int32) : sI (mkM F A B) 2 17 (nI j) x = some (mkM F (va_up A 17 (upd (A 17) j (hs_nar 2 x))) B) := (hs_sI (n := 40) (f := A 17) rfl h (by decide) x).trans (congrArg some (mkM_A F A B 17 _ (by decide) (by decide) (by decide)))
theorem ma_18 {j : Nat} (h : j < 12) : aI (mkM F A B) 2 18 (nI j) = some (A 18 j) := hs_aI rfl h (by decide)
theorem ms_18 {j : Nat} (h : j < 12) (x : Int32) : sI (mkM F A B) 2 18 (nI j) x = some (mkM F (va_up A 18 (upd (A 18) j (hs_nar 2 x))) B) := (hs_sI (n := 12) (f := A 18) rfl h (by decide) x).trans (congrArg some (mkM_A F A B 18 _ (by decide) (by decide) (by decide)))
theorem ma_19 {j : Nat} (h : j < 12) : aI (mkM F A B) 2 19 (nI j) = some (A 19 j) := hs_aI rfl h (by decide)
theorem ms_19 {j : Nat} (h : j < 12) (x : Int32) : sI (mkM F A B) 2 19 (nI j) x = some (mkM F (va_up A 19 (upd (A 19) j (hs_nar 2 x))) B) := (hs_sI (n := 12) (f := A 19) rfl h (by decide) x).trans (congrArg some (mkM_A F A B 19 _ (by decide) (by decide) (by decide)))
theorem ma_20 {j : Nat} (h : j < 260) : aI (mkM F A B) 4 20 (nI j) = some (A 20 j) := hs_aI rfl h (by decide)
theorem ms_20 {j : Nat} (h : j < 260) (x : Int32) : sI (mkM F A B) 4 20 (nI j) x = some (mkM F (va_up A 20 (upd (A 20) j (hs_nar 4 x))) B) := (hs_sI (n := 260) (f := A 20) rfl h (by decide) x).trans (congrArg some (mkM_A F A B 20 _ (by decide) (by decide) (by decide)))
theorem ma_21 {j : Nat} (h : j < 260) : aI (mkM F A B) 2 21 (nI j) = some (A 21 j) := hs_aI rfl h (by decide)
theorem ms_21 {j : Nat} (h : j < 260) (x : Int32) : sI (mkM F A B) 2 21 (nI j) x = some (mkM F (va_up A 21 (upd (A 21) j (hs_nar 2 x))) B) := (hs_sI (n := 260) (f := A 21) rfl h (by decide) x).trans (congrArg some (mkM_A F A B 21 _ (by decide) (by decide) (by decide)))
theorem ma_22 {j : Nat} (h : j < 260) : aI (mkM F A B) 2 22 (nI j) = some (A 22 j) := hs_aI rfl h (by decide)
theorem ms_22 {j : Nat} (h : j < 260) (x : Int32) : sI (mkM F A B) 2 22 (nI j) x = some (mkM F (va_up A 22 (upd (A 22) j (hs_nar 2 x))) B) := (hs_sI (n := 260) (f := A 22) rfl h (by decide) x).trans (congrArg some (mkM_A F A B 22 _ (by decide) (by decide) (by decide)))
theorem ma_23 {j : Nat} (h : j < 260) : aI (mkM F A B) 2 23 (nI j) = some (A 23 j) := hs_aI rfl h (by decide)
theorem ms_23 {j : Nat} (h : j < 260) (x : Int32) : sI (mkM F A B) 2 23 (nI j) x = some (mkM F (va_up A 23 (upd (A 23) j (hs_nar 2 x))) B) := (hs_sI (n := 260) (f := A 23) rfl h (by decide) x).trans (congrArg some (mkM_A F A B 23 _ (by decide) (by decide) (by decide)))
theorem ma_24 {j : Nat} (h : j < 260) : aI (mkM F A B) 2 24 (nI j) = some (A 24 j) := hs_aI rfl h (by decide)
theorem ms_24 {j : Nat} (h : j < 260) (x : Int32) : sI (mkM F A B) 2 24 (nI j) x = some (mkM F (va_up A 24 (upd (A 24) j (hs_nar 2 x))) B) := (hs_sI (n := 260) (f := A 24) rfl h (by decide) x).trans (congrArg some (mkM_A F A B 24 _ (by decide) (by decide) (by decide)))
theorem ma_25 {j : Nat} (h : j < 840) : aI (mkM F A B) 2 25 (nI j) = some (A 25 j) := hs_aI rfl h (by decide)
theorem ms_25 {j : Nat} (h : j < 840) (x : Int32) : sI (mkM F A B) 2 25 (nI j) x = some (mkM F (va_up A 25 (upd (A 25) j (hs_nar 2 x))) B) := (hs_sI (n := 840) (f := A 25) rfl h (by decide) x).trans (congrArg some (mkM_A F A B 25 _ (by decide) (by decide) (by decide)))
theorem ma_26 {j : Nat} (h : j < 840) : aI (mkM F A B) 2 26 (nI j) = some (A 26 j) := hs_aI rfl h (by decide)
theorem ms_26 {j : Nat} (h : j < 840) (x : Int32) : sI (mkM F A B) 2 26 (nI j) x = some (mkM F (va_up A 26 (upd (A 26) j (hs_nar 2 x))) B) := (hs_sI (n := 840) (f := A 26) rfl h (by decide) x).trans (congrArg some (mkM_A F A B 26 _ (by decide) (by decide) (by decide)))
theorem ma_27 {j : Nat} (h : j < 64) : aI (mkM F A B) 2 27 (nI j) = some (A 27 j) := hs_aI rfl h (by decide)
theorem ms_27 {j : Nat} (h : j < 64) (x : Int32) : sI (mkM F A B) 2 27 (nI j) x = some (mkM F (va_up A 27 (upd (A 27) j (hs_nar 2 x))) B) := (hs_sI (n := 64) (f := A 27) rfl h (by decide) x).trans (congrArg some (mkM_A F A B 27 _ (by decide) (by decide) (by decide)))
theorem ma_28 {j : Nat} (h : j < 5) : aI (mkM F A B) 2 28 (nI j) = some (A 28 j) := hs_aI rfl h (by decide)
theorem ms_28 {j : Nat} (h : j < 5) (x : Int32) : sI (mkM F A B) 2 28 (nI j) x = some (mkM F (va_up A 28 (upd (A 28) j (hs_nar 2 x))) B) := (hs_sI (n := 5) (f := A 28) rfl h (by decide) x).trans (congrArg some (mkM_A F A B 28 _ (by decide) (by decide) (by decide)))
theorem ma_29 {j : Nat} (h : j < 400) : aI (mkM F A B) 2 29 (nI j) = some (A 29 j) := hs_aI rfl h (by decide)
theorem ms_29 {j : Nat} (h : j < 400) (x : Int32) : sI (mkM F A B) 2 29 (nI j) x = some (mkM F (va_up A 29 (upd (A 29) j (hs_nar 2 x))) B) := (hs_sI (n := 400) (f := A 29) rfl h (by decide) x).trans (congrArg some (mkM_A F A B 29 _ (by decide) (by decide) (by decide)))
theorem ma_30 {j : Nat} (h : j < 20) : aI (mkM F A B) 2 30 (nI j) = some (A 30 j) := hs_aI rfl h (by decide)
theorem ms_30 {j : Nat} (h : j < 20) (x : Int32) : sI (mkM F A B) 2 30 (nI j) x = some (mkM F (va_up A 30 (upd (A 30) j (hs_nar 2 x))) B) := (hs_sI (n := 20) (f := A 30) rfl h (by decide) x).trans (congrArg some (mkM_A F A B 30 _ (by decide) (by decide) (by decide)))
theorem ma_31 {j : Nat} (h : j < 20) : aI (mkM F A B) 2 31 (nI j) = some (A 31 j) := hs_aI rfl h (by decide)
theorem ms_31 {j : Nat} (h : j < 20) (x : Int32) : sI (mkM F A B) 2 31 (nI j) x = some (mkM F (va_up A 31 (upd (A 31) j (hs_nar 2 x))) B) := (hs_sI (n := 20) (f := A 31) rfl h (by decide) x).trans (congrArg some (mkM_A F A B 31 _ (by decide) (by decide) (by decide)))
theorem ma_32 {j : Nat} (h : j < 6) : aI (mkM F A B) 2 32 (nI j) = some (A 32 j) := hs_aI rfl h (by decide)
theorem ms_32 {j : Nat} (h : j < 6) (x : Int32) : sI (mkM F A B) 2 32 (nI j) x = some (mkM F (va_up A 32 (upd (A 32) j (hs_nar 2 x))) B) := (hs_sI (n := 6) (f := A 32) rfl h (by decide) x).trans (congrArg some (mkM_A F A B 32 _ (by decide) (by decide) (by decide)))
theorem ma_33 {j : Nat} (h : j < 6) : aL (mkM F A B) 3 33 (nI j) = some (B 33 j) := hs_aL rfl h (by decide)
theorem ms_33 {j : Nat} (h : j < 6) (x : Int64) : sL (mkM F A B) 3 33 (nI j) x = some (mkM F A (va_up B 33 (vp_updL (B 33) j x))) := (hs_sL (n := 6) (f := B 33) rfl h (by decide) x).trans (congrArg some (mkM_B F A B 33 _ (by decide) (by decide) (by decide)))
theorem ma_34 {j : Nat} (h : j < 6) : aL (mkM F A B) 3 34 (nI j) = some (B 34 j) := hs_aL rfl h (by decide)
theorem ms_34 {j : Nat} (h : j < 6) (x : Int64) : sL (mkM F A B) 3 34 (nI j) x = some (mkM F A (va_up B 34 (vp_updL (B 34) j x))) := (hs_sL (n := 6) (f := B 34) rfl h (by decide) x).trans (congrArg some (mkM_B F A B 34 _ (by decide) (by decide) (by decide)))
theorem ma_35 {j : Nat} (h : j < 1000) : aI (mkM F A B) 2 35 (nI j) = some (A 35 j) := hs_aI rfl h (by decide)
theorem ms_35 {j : Nat} (h : j < 1000) (x : Int32) : sI (mkM F A B) 2 35 (nI j) x = some (mkM F (va_up A 35 (upd (A 35) j (hs_nar 2 x))) B) := (hs_sI (n := 1000) (f := A 35) rfl h (by decide) x).trans (congrArg some (mkM_A F A B 35 _ (by decide) (by decide) (by decide)))
theorem ma_36 {j : Nat} (h : j < 64) : aI (mkM F A B) 2 36 (nI j) = some (A 36 j) := hs_aI rfl h (by decide)
theorem ms_36 {j : Nat} (h : j < 64) (x : Int32) : sI (mkM F A B) 2 36 (nI j) x = some (mkM F (va_up A 36 (upd (A 36) j (hs_nar 2 x))) B) := (hs_sI (n := 64) (f := A 36) rfl h (by decide) x).trans (congrArg some (mkM_A F A B 36 _ (by decide) (by decide) (by decide)))
theorem ma_37 {j : Nat} (h : j < 6) : aI (mkM F A B) 2 37 (nI j) = some (A 37 j) := hs_aI rfl h (by decide)
theorem ms_37 {j : Nat} (h : j < 6) (x : Int32) : sI (mkM F A B) 2 37 (nI j) x = some (mkM F (va_up A 37 (upd (A 37) j (hs_nar 2 x))) B) := (hs_sI (n := 6) (f := A 37) rfl h (by decide) x).trans (congrArg some (mkM_A F A B 37 _ (by decide) (by decide) (by decide)))
theorem ma_38 {j : Nat} (h : j < 120) : aI (mkM F A B) 2 38 (nI j) = some (A 38 j) := hs_aI rfl h (by decide)
theorem ms_38 {j : Nat} (h : j < 120) (x : Int32) : sI (mkM F A B) 2 38 (nI j) x = some (mkM F (va_up A 38 (upd (A 38) j (hs_nar 2 x))) B) := (hs_sI (n := 120) (f := A 38) rfl h (by decide) x).trans (congrArg some (mkM_A F A B 38 _ (by decide) (by decide) (by decide)))
theorem ma_39 {j : Nat} (h : j < 6) : aI (mkM F A B) 4 39 (nI j) = some (A 39 j) := hs_aI rfl h (by decide)
theorem ms_39 {j : Nat} (h : j < 6) (x : Int32) : sI (mkM F A B) 4 39 (nI j) x = some (mkM F (va_up A 39 (upd (A 39) j (hs_nar 4 x))) B) := (hs_sI (n := 6) (f := A 39) rfl h (by decide) x).trans (congrArg some (mkM_A F A B 39 _ (by decide) (by decide) (by decide)))
theorem ma_40 {j : Nat} (h : j < 6) : aI (mkM F A B) 2 40 (nI j) = some (A 40 j) := hs_aI rfl h (by decide)
theorem ms_40 {j : Nat} (h : j < 6) (x : Int32) : sI (mkM F A B) 2 40 (nI j) x = some (mkM F (va_up A 40 (upd (A 40) j (hs_nar 2 x))) B) := (hs_sI (n := 6) (f := A 40) rfl h (by decide) x).trans (congrArg some (mkM_A F A B 40 _ (by decide) (by decide) (by decide)))
theorem ma_41 {j : Nat} (h : j < 6) : aI (mkM F A B) 2 41 (nI j) = some (A 41 j) := hs_aI rfl h (by decide)
theorem ms_41 {j : Nat} (h : j < 6) (x : Int32) : sI (mkM F A B) 2 41 (nI j) x = some (mkM F (va_up A 41 (upd (A 41) j (hs_nar 2 x))) B) := (hs_sI (n := 6) (f := A 41) rfl h (by decide) x).trans (congrArg some (mkM_A F A B 41 _ (by decide) (by decide) (by decide)))
theorem ma_42 {j : Nat} (h : j < 3) : aI (mkM F A B) 4 42 (nI j) = some (A 42 j) := hs_aI rfl h (by decide)
theorem ms_42 {j : Nat} (h : j < 3) (x : Int32) : sI (mkM F A B) 4 42 (nI j) x = some (mkM F (va_up A 42 (upd (A 42) j (hs_nar 4 x))) B) := (hs_sI (n := 3) (f := A 42) rfl h (by decide) x).trans (congrArg some (mkM_A F A B 42 _ (by decide) (by decide) (by decide)))
theorem ma_43 {j : Nat} (h : j < 60) : aI (mkM F A B) 2 43 (nI j) = some (A 43 j) := hs_aI rfl h (by decide)
theorem ms_43 {j : Nat} (h : j < 60) (x : Int32) : sI (mkM F A B) 2 43 (nI j) x = some (mkM F (va_up A 43 (upd (A 43) j (hs_nar 2 x))) B) := (hs_sI (n := 60) (f := A 43) rfl h (by decide) x).trans (congrArg some (mkM_A F A B 43 _ (by decide) (by decide) (by decide)))
end MB
