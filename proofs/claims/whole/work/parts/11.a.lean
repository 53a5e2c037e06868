def fX12_put_b3 : Nat → Nat → Int32 → Int32 → Sto → Option (Unit × Sto)
  | 0, _, _, _, _ => none
  | n + 1, x0, x1, x2, σ => (if x2 < 0 then (some ((), σ)) else ((gR σ 12 x0 1).bind fun t1 => ((gI σ 12 x0 2).bind fun t2 => ((sI σ 0 t1 t2 ((((x1 >>> (x2 &&& 31))).toInt8.toInt32))).bind fun σ3 => ((gI σ3 12 x0 2).bind fun t4 => ((pV σ3 12 x0 2 (.int ((t4 + ((1 : Int32)))))).bind fun σ5 => (fX12_put_b3 n x0 x1 (x2 + (-8 : Int32)) σ5)))))))
set_option maxHeartbeats 2000000 in
theorem sX12_put_b3 {G : GP} {n0 : Nat} : ∀ (n : Nat) (x0 : Nat) (x1 : Int32) (x2 : Int32) (σ : Sto), Sim G mX12_put 1 0 0 n0 jV 0 0 3 [(0, .ref x0), (1, .int x1), (2, .int x2)] [] σ (fX12_put_b3 n x0 x1 x2 σ) := by
  intro n
  induction n with
  | zero => intros; rw [fX12_put_b3]; exact hj_none
  | succ n ih =>
    intro x0 x1 x2 σ
    rw [fX12_put_b3]
    refine hj_iload_n 2 dX12_put_3 rfl ?_
    refine hj_if_lt 36 dX12_put_4 (by decide) (fun _ => ?_) (fun _ => ?_)
    · exact hj_vret dX12_put_36 rfl rfl (Nat.le_refl _)
    · refine hj_aload_n 0 dX12_put_7 rfl ?_
      refine hj_getR flX12_13 dX12_put_8 (fun t1 _ => ?_)
      refine hj_aload_n 0 dX12_put_11 rfl ?_
      refine hj_getI flX12_153 dX12_put_12 (fun t2 _ => ?_)
      refine hj_iload_n 1 dX12_put_15 rfl ?_
      refine hj_iload_n 2 dX12_put_16 rfl ?_
      refine hj_ishr dX12_put_17 ?_
      refine hj_i2b dX12_put_18 ?_
      refine hj_bast dX12_put_19 (fun σ3 _ => ?_)
      refine hj_aload_n 0 dX12_put_20 rfl ?_
      refine hj_dup dX12_put_21 rfl ?_
      refine hj_getI flX12_153 dX12_put_22 (fun t4 _ => ?_)
      refine hj_iconst (1 : Int32) dX12_put_25 (by decide) ?_
      refine hj_iadd dX12_put_26 ?_
      refine hj_put (fpX12_153 _) (fun _ => rfl) (fun _ => rfl) dX12_put_27 (fun σ5 _ => ?_)
      refine hj_iinc (lv' := [(0, .ref x0), (1, .int x1), (2, .int (x2 + (-8 : Int32)))]) 2 (-8 : Int32) dX12_put_30 rfl (by decide) (by decide) [1, 2, 0] rfl ?_
      refine hj_goto 3 dX12_put_33 (by decide) ?_
      refine hj_loc (lv' := [(0, .ref x0), (1, .int x1), (2, .int (x2 + (-8 : Int32)))]) [0, 1, 2] rfl ?_
      exact ih _ _ _ _
def fX12_put (a0 : Nat) (a1 : Int32) (σ : Sto) : Option (Unit × Sto) := ck σ 12 a0 (fX12_put_b3 FU a0 a1 ((24 : Int32)) σ)
set_option maxHeartbeats 2000000 in
theorem kX12_put (G : GP) (a0 : Nat) (a1 : Int32) (σ : Sto) : Me G mX12_put 1 0 0 jV [.ref a0, .int a1] σ (fX12_put a0 a1 σ) := by
  refine hs_me (lv := [(0, .ref a0), (1, .int a1)]) (plainFor_of_name (by decide +kernel)) (Nat.le_of_ble_eq_true rfl) rfl ?_
  unfold fX12_put
  refine hj_ck ?_
  refine hj_bipush (24 : Int32) dX12_put_0 (by decide) ?_
  refine hj_istore_n (lv' := [(0, .ref a0), (1, .int a1), (2, .int (24 : Int32))]) dX12_put_2 (by decide) [1, 2, 0] rfl ?_
  refine hj_loc (lv' := [(0, .ref a0), (1, .int a1), (2, .int (24 : Int32))]) [0, 1, 2] rfl ?_
  exact sX12_put_b3 _ _ _ _ _
theorem cX12_putk {a0 : Nat} {a1 : Int32} {σ : Sto} {r : Unit × Sto} (h : fX12_put a0 a1 σ = some r) : ∃ fs, hs_o σ 12 a0 = some fs := (ck_of h).1
def fX12_feed (a0 : Nat) (a1 : Int32) (a2 : Int32) (a3 : Int32) (a4 : Int32) (a5 : Int32) (σ : Sto) : Option (Int32 × Sto) := ck σ 12 a0 ((gI σ 12 a0 2).bind fun t1 => (if (t1 + ((20 : Int32))) ≤ (2000 : Int32) then (cb (fX12_put a0 a1 σ) fun _ σ2 => (cb (fX12_put a0 a2 σ2) fun _ σ3 => (cb (fX12_put a0 a3 σ3) fun _ σ4 => (cb (fX12_put a0 a4 σ4) fun _ σ5 => (cb (fX12_put a0 a5 σ5) fun _ σ6 => ((gI σ6 12 a0 2).bind fun t7 => (some (t7, σ6)))))))) else (some ((-1 : Int32), σ))))
set_option maxHeartbeats 2000000 in
theorem kX12_feed (G : GP) (a0 : Nat) (a1 : Int32) (a2 : Int32) (a3 : Int32) (a4 : Int32) (a5 : Int32) (σ : Sto) : Me G mX12_feed 2 0 0 jI [.ref a0, .int a1, .int a2, .int a3, .int a4, .int a5] σ (fX12_feed a0 a1 a2 a3 a4 a5 σ) := by
  refine hs_me (lv := [(0, .ref a0), (1, .int a1), (2, .int a2), (3, .int a3), (4, .int a4), (5, .int a5)]) (plainFor_of_name (by decide +kernel)) (Nat.le_of_ble_eq_true rfl) rfl ?_
  unfold fX12_feed
  refine hj_ck ?_
  refine hj_aload_n 0 dX12_feed_0 rfl ?_
  refine hj_getI flX12_153 dX12_feed_1 (fun t1 _ => ?_)
  refine hj_bipush (20 : Int32) dX12_feed_4 (by decide) ?_
  refine hj_iadd dX12_feed_6 ?_
  refine hj_sipush (2000 : Int32) dX12_feed_7 (by decide) ?_
  refine hj_icmp_le 15 dX12_feed_10 (by decide) (fun _ => ?_) (fun _ => ?_)
  · refine hj_aload_n 0 dX12_feed_15 rfl ?_
    refine hj_iload_n 1 dX12_feed_16 rfl ?_
    refine hj_callV (ci := 12) (M' := mX12_put) (h' := 1) (As := [.int a1]) mfX12_put mvX12_put ⟨_, _, rfl⟩ mlX12_156 dX12_feed_17 (kX12_put G _ _ _) (fun _ hr => cX12_putk hr) ⟨Nat.le_of_ble_eq_true rfl, Nat.le_of_ble_eq_true rfl⟩ ⟨Nat.le_refl _, Nat.le_refl _⟩ rfl (Nat.le_of_ble_eq_true rfl) (fun _ σ2 _ => ?_)
    refine hj_aload_n 0 dX12_feed_20 rfl ?_
    refine hj_iload_n 2 dX12_feed_21 rfl ?_
    refine hj_callV (ci := 12) (M' := mX12_put) (h' := 1) (As := [.int a2]) mfX12_put mvX12_put ⟨_, _, rfl⟩ mlX12_156 dX12_feed_22 (kX12_put G _ _ _) (fun _ hr => cX12_putk hr) ⟨Nat.le_of_ble_eq_true rfl, Nat.le_of_ble_eq_true rfl⟩ ⟨Nat.le_refl _, Nat.le_refl _⟩ rfl (Nat.le_of_ble_eq_true rfl) (fun _ σ3 _ => ?_)
    refine hj_aload_n 0 dX12_feed_25 rfl ?_
    refine hj_iload_n 3 dX12_feed_26 rfl ?_
    refine hj_callV (ci := 12) (M' := mX12_put) (h' := 1) (As := [.int a3]) mfX12_put mvX12_put ⟨_, _, rfl⟩ mlX12_156 dX12_feed_27 (kX12_put G _ _ _) (fun _ hr => cX12_putk hr) ⟨Nat.le_of_ble_eq_true rfl, Nat.le_of_ble_eq_true rfl⟩ ⟨Nat.le_refl _, Nat.le_refl _⟩ rfl (Nat.le_of_ble_eq_true rfl) (fun _ σ4 _ => ?_)
    refine hj_aload_n 0 dX12_feed_30 rfl ?_
    refine hj_iload 4 dX12_feed_31 rfl ?_
    refine hj_callV (ci := 12) (M' := mX12_put) (h' := 1) (As := [.int a4]) mfX12_put mvX12_put ⟨_, _, rfl⟩ mlX12_156 dX12_feed_33 (kX12_put G _ _ _) (fun _ hr => cX12_putk hr) ⟨Nat.le_of_ble_eq_true rfl, Nat.le_of_ble_eq_true rfl⟩ ⟨Nat.le_refl _, Nat.le_refl _⟩ rfl (Nat.le_of_ble_eq_true rfl) (fun _ σ5 _ => ?_)
    refine hj_aload_n 0 dX12_feed_36 rfl ?_
    refine hj_iload 5 dX12_feed_37 rfl ?_
    refine hj_callV (ci := 12) (M' := mX12_put) (h' := 1) (As := [.int a5]) mfX12_put mvX12_put ⟨_, _, rfl⟩ mlX12_156 dX12_feed_39 (kX12_put G _ _ _) (fun _ hr => cX12_putk hr) ⟨Nat.le_of_ble_eq_true rfl, Nat.le_of_ble_eq_true rfl⟩ ⟨Nat.le_refl _, Nat.le_refl _⟩ rfl (Nat.le_of_ble_eq_true rfl) (fun _ σ6 _ => ?_)
    refine hj_aload_n 0 dX12_feed_42 rfl ?_
    refine hj_getI flX12_153 dX12_feed_43 (fun t7 _ => ?_)
    exact hj_iret dX12_feed_46 rfl rfl (Nat.le_refl _)
  · refine hj_iconst (-1 : Int32) dX12_feed_13 (by decide) ?_
    exact hj_iret dX12_feed_14 rfl rfl (Nat.le_refl _)
theorem cX12_feedk {a0 : Nat} {a1 : Int32} {a2 : Int32} {a3 : Int32} {a4 : Int32} {a5 : Int32} {σ : Sto} {r : Int32 × Sto} (h : fX12_feed a0 a1 a2 a3 a4 a5 σ = some r) : ∃ fs, hs_o σ 12 a0 = some fs := (ck_of h).1
def fX12_back (a0 : Nat) (a1 : Int32) (σ : Sto) : Option (Int32 × Sto) := ck σ 12 a0 (if a1 < 0 then (some ((-1 : Int32), σ)) else ((gI σ 12 a0 2).bind fun t1 => (if a1 ≤ t1 then ((gI σ 12 a0 2).bind fun t2 => ((pV σ 12 a0 2 (.int ((t2 - a1)))).bind fun σ3 => ((gI σ3 12 a0 2).bind fun t4 => (some (t4, σ3))))) else (some ((-1 : Int32), σ)))))
set_option maxHeartbeats 2000000 in
theorem kX12_back (G : GP) (a0 : Nat) (a1 : Int32) (σ : Sto) : Me G mX12_back 1 0 0 jI [.ref a0, .int a1] σ (fX12_back a0 a1 σ) := by
  refine hs_me (lv := [(0, .ref a0), (1, .int a1)]) (plainFor_of_name (by decide +kernel)) (Nat.le_of_ble_eq_true rfl) rfl ?_
  unfold fX12_back
  refine hj_ck ?_
  refine hj_iload_n 1 dX12_back_0 rfl ?_
  refine hj_if_lt 12 dX12_back_1 (by decide) (fun _ => ?_) (fun _ => ?_)
  · refine hj_iconst (-1 : Int32) dX12_back_12 (by decide) ?_
    exact hj_iret dX12_back_13 rfl rfl (Nat.le_refl _)
  · refine hj_iload_n 1 dX12_back_4 rfl ?_
    refine hj_aload_n 0 dX12_back_5 rfl ?_
    refine hj_getI flX12_153 dX12_back_6 (fun t1 _ => ?_)
    refine hj_icmp_le 14 dX12_back_9 (by decide) (fun _ => ?_) (fun _ => ?_)
    · refine hj_aload_n 0 dX12_back_14 rfl ?_
      refine hj_dup dX12_back_15 rfl ?_
      refine hj_getI flX12_153 dX12_back_16 (fun t2 _ => ?_)
      refine hj_iload_n 1 dX12_back_19 rfl ?_
      refine hj_isub dX12_back_20 ?_
      refine hj_put (fpX12_153 _) (fun _ => rfl) (fun _ => rfl) dX12_back_21 (fun σ3 _ => ?_)
      refine hj_aload_n 0 dX12_back_24 rfl ?_
      refine hj_getI flX12_153 dX12_back_25 (fun t4 _ => ?_)
      exact hj_iret dX12_back_28 rfl rfl (Nat.le_refl _)
    · refine hj_iconst (-1 : Int32) dX12_back_12 (by decide) ?_
      exact hj_iret dX12_back_13 rfl rfl (Nat.le_refl _)
theorem cX12_backk {a0 : Nat} {a1 : Int32} {σ : Sto} {r : Int32 × Sto} (h : fX12_back a0 a1 σ = some r) : ∃ fs, hs_o σ 12 a0 = some fs := (ck_of h).1
def fX12_byteAt (a0 : Nat) (a1 : Int32) (σ : Sto) : Option (Int32 × Sto) := ck σ 12 a0 ((gI σ 12 a0 4).bind fun t1 => (if t1 ≤ a1 then (some ((0 : Int32), σ)) else ((gR σ 12 a0 3).bind fun t2 => ((aI σ 0 t2 a1).bind fun t3 => (some ((t3 &&& ((255 : Int32))), σ))))))
set_option maxHeartbeats 2000000 in
theorem kX12_byteAt (G : GP) (a0 : Nat) (a1 : Int32) (σ : Sto) : Me G mX12_byteAt 1 0 0 jI [.ref a0, .int a1] σ (fX12_byteAt a0 a1 σ) := by
  refine hs_me (lv := [(0, .ref a0), (1, .int a1)]) (plainFor_of_name (by decide +kernel)) (Nat.le_of_ble_eq_true rfl) rfl ?_
  unfold fX12_byteAt
  refine hj_ck ?_
  refine hj_iload_n 1 dX12_byteAt_0 rfl ?_
  refine hj_aload_n 0 dX12_byteAt_1 rfl ?_
  refine hj_getI flX12_160 dX12_byteAt_2 (fun t1 _ => ?_)
  refine hj_icmp_ge 21 dX12_byteAt_5 (by decide) (fun _ => ?_) (fun _ => ?_)
  · refine hj_iconst (0 : Int32) dX12_byteAt_21 (by decide) ?_
    exact hj_iret dX12_byteAt_22 rfl rfl (Nat.le_refl _)
  · refine hj_aload_n 0 dX12_byteAt_8 rfl ?_
    refine hj_getR flX12_17 dX12_byteAt_9 (fun t2 _ => ?_)
    refine hj_iload_n 1 dX12_byteAt_12 rfl ?_
    refine hj_bald dX12_byteAt_13 (fun t3 _ => ?_)
    refine hj_sipush (255 : Int32) dX12_byteAt_14 (by decide) ?_
    refine hj_iand dX12_byteAt_17 ?_
    refine hj_goto 22 dX12_byteAt_18 (by decide) ?_
    exact hj_iret dX12_byteAt_22 rfl rfl (Nat.le_refl _)
theorem cX12_byteAtk {a0 : Nat} {a1 : Int32} {σ : Sto} {r : Int32 × Sto} (h : fX12_byteAt a0 a1 σ = some r) : ∃ fs, hs_o σ 12 a0 = some fs := (ck_of h).1
def fX12_isDigit (a0 : Int32) (σ : Sto) : Option (Int32 × Sto) := (if a0 < (48 : Int32) then (some ((0 : Int32), σ)) else (if (57 : Int32) < a0 then (some ((0 : Int32), σ)) else (some ((1 : Int32), σ))))
set_option maxHeartbeats 2000000 in
theorem kX12_isDigit (G : GP) (a0 : Int32) (σ : Sto) : Me G mX12_isDigit 1 0 0 jI [.int a0] σ (fX12_isDigit a0 σ) := by
  refine hs_me (lv := [(0, .int a0)]) (plainFor_of_name (by decide +kernel)) (Nat.le_of_ble_eq_true rfl) rfl ?_
  unfold fX12_isDigit
  refine hj_iload_n 0 dX12_isDigit_0 rfl ?_
  refine hj_bipush (48 : Int32) dX12_isDigit_1 (by decide) ?_
  refine hj_icmp_lt 16 dX12_isDigit_3 (by decide) (fun _ => ?_) (fun _ => ?_)
  · refine hj_iconst (0 : Int32) dX12_isDigit_16 (by decide) ?_
    exact hj_zret dX12_isDigit_17 rfl (by decide) rfl (Nat.le_refl _)
  · refine hj_iload_n 0 dX12_isDigit_6 rfl ?_
    refine hj_bipush (57 : Int32) dX12_isDigit_7 (by decide) ?_
    refine hj_icmp_gt 16 dX12_isDigit_9 (by decide) (fun _ => ?_) (fun _ => ?_)
    · refine hj_iconst (0 : Int32) dX12_isDigit_16 (by decide) ?_
      exact hj_zret dX12_isDigit_17 rfl (by decide) rfl (Nat.le_refl _)
    · refine hj_iconst (1 : Int32) dX12_isDigit_12 (by decide) ?_
      refine hj_goto 17 dX12_isDigit_13 (by decide) ?_
      exact hj_zret dX12_isDigit_17 rfl (by decide) rfl (Nat.le_refl _)
def fX12_isLetter (a0 : Int32) (σ : Sto) : Option (Int32 × Sto) := (if a0 < (97 : Int32) then (some ((0 : Int32), σ)) else (if (122 : Int32) < a0 then (some ((0 : Int32), σ)) else (some ((1 : Int32), σ))))
set_option maxHeartbeats 2000000 in
theorem kX12_isLetter (G : GP) (a0 : Int32) (σ : Sto) : Me G mX12_isLetter 1 0 0 jI [.int a0] σ (fX12_isLetter a0 σ) := by
  refine hs_me (lv := [(0, .int a0)]) (plainFor_of_name (by decide +kernel)) (Nat.le_of_ble_eq_true rfl) rfl ?_
  unfold fX12_isLetter
  refine hj_iload_n 0 dX12_isLetter_0 rfl ?_
  refine hj_bipush (97 : Int32) dX12_isLetter_1 (by decide) ?_
  refine hj_icmp_lt 16 dX12_isLetter_3 (by decide) (fun _ => ?_) (fun _ => ?_)
  · refine hj_iconst (0 : Int32) dX12_isLetter_16 (by decide) ?_
    exact hj_zret dX12_isLetter_17 rfl (by decide) rfl (Nat.le_refl _)
  · refine hj_iload_n 0 dX12_isLetter_6 rfl ?_
    refine hj_bipush (122 : Int32) dX12_isLetter_7 (by decide) ?_
    refine hj_icmp_gt 16 dX12_isLetter_9 (by decide) (fun _ => ?_) (fun _ => ?_)
    · refine hj_iconst (0 : Int32) dX12_isLetter_16 (by decide) ?_
      exact hj_zret dX12_isLetter_17 rfl (by decide) rfl (Nat.le_refl _)
    · refine hj_iconst (1 : Int32) dX12_isLetter_12 (by decide) ?_
      refine hj_goto 17 dX12_isLetter_13 (by decide) ?_
      exact hj_zret dX12_isLetter_17 rfl (by decide) rfl (Nat.le_refl _)
def fX12_appends (a0 : Int64) (a1 : Int32) (σ : Sto) : Option (Int64 × Sto) := (if a1 = 0 then (some (a0, σ)) else (some ((((((27 : Int64)) * a0)) + ((((((a1 - ((97 : Int32)))) + ((1 : Int32)))).toInt64))), σ)))
set_option maxHeartbeats 2000000 in
theorem kX12_appends (G : GP) (a0 : Int64) (a1 : Int32) (σ : Sto) : Me G mX12_appends 1 0 0 jL [.long a0, .int a1] σ (fX12_appends a0 a1 σ) := by
  refine hs_me (lv := [(0, .long a0), (2, .int a1)]) (plainFor_of_name (by decide +kernel)) (Nat.le_of_ble_eq_true rfl) rfl ?_
  unfold fX12_appends
  refine hj_iload_n 1 dX12_appends_0 rfl ?_
  refine hj_if_ne 8 dX12_appends_1 (by decide) (fun _ => ?_) (fun _ => ?_)
  · refine hj_ldc2 (27 : Int64) kcX12_163 dX12_appends_8 ?_
    refine hj_lload_n 0 dX12_appends_11 rfl ?_
    refine hj_lmul dX12_appends_12 ?_
    refine hj_iload_n 1 dX12_appends_13 rfl ?_
    refine hj_bipush (97 : Int32) dX12_appends_14 (by decide) ?_
    refine hj_isub dX12_appends_16 ?_
    refine hj_iconst (1 : Int32) dX12_appends_17 (by decide) ?_
    refine hj_iadd dX12_appends_18 ?_
    refine hj_i2l dX12_appends_19 ?_
    refine hj_ladd dX12_appends_20 ?_
    exact hj_lret dX12_appends_21 rfl rfl (Nat.le_refl _)
  · refine hj_lload_n 0 dX12_appends_4 rfl ?_
    refine hj_goto 21 dX12_appends_5 (by decide) ?_
    exact hj_lret dX12_appends_21 rfl rfl (Nat.le_refl _)
def fX12_word (a0 : Int32) (a1 : Int32) (a2 : Int32) (a3 : Int32) (a4 : Int32) (a5 : Int32) (a6 : Int32) (σ : Sto) : Option (Int64 × Sto) := (cb (fX12_appends ((0 : Int64)) a0 σ) fun r2 σ1 => (cb (fX12_appends r2 a1 σ1) fun r4 σ3 => (cb (fX12_appends r4 a2 σ3) fun r6 σ5 => (cb (fX12_appends r6 a3 σ5) fun r8 σ7 => (cb (fX12_appends r8 a4 σ7) fun r10 σ9 => (cb (fX12_appends r10 a5 σ9) fun r12 σ11 => (cb (fX12_appends r12 a6 σ11) fun r14 σ13 => (some (r14, σ13)))))))))
set_option maxHeartbeats 2000000 in
theorem kX12_word (G : GP) (a0 : Int32) (a1 : Int32) (a2 : Int32) (a3 : Int32) (a4 : Int32) (a5 : Int32) (a6 : Int32) (σ : Sto) : Me G mX12_word 2 0 0 jL [.int a0, .int a1, .int a2, .int a3, .int a4, .int a5, .int a6] σ (fX12_word a0 a1 a2 a3 a4 a5 a6 σ) := by
  refine hs_me (lv := [(0, .int a0), (1, .int a1), (2, .int a2), (3, .int a3), (4, .int a4), (5, .int a5), (6, .int a6)]) (plainFor_of_name (by decide +kernel)) (Nat.le_of_ble_eq_true rfl) rfl ?_
  unfold fX12_word
  refine hj_lconst (0 : Int64) dX12_word_0 (by decide) ?_
  refine hj_iload_n 0 dX12_word_1 rfl ?_
  refine hj_callS (M' := mX12_appends) (h' := 1) (As := [.long ((0 : Int64)), .int a0]) mfX12_appends msX12_appends mlX12_165 dX12_word_2 (kX12_appends G _ _ _) ⟨Nat.le_of_ble_eq_true rfl, Nat.le_of_ble_eq_true rfl⟩ ⟨Nat.le_refl _, Nat.le_refl _⟩ rfl (Nat.le_of_ble_eq_true rfl) (fun r2 σ1 _ => ?_)
  refine hj_iload_n 1 dX12_word_5 rfl ?_
  refine hj_callS (M' := mX12_appends) (h' := 1) (As := [.long r2, .int a1]) mfX12_appends msX12_appends mlX12_165 dX12_word_6 (kX12_appends G _ _ _) ⟨Nat.le_of_ble_eq_true rfl, Nat.le_of_ble_eq_true rfl⟩ ⟨Nat.le_refl _, Nat.le_refl _⟩ rfl (Nat.le_of_ble_eq_true rfl) (fun r4 σ3 _ => ?_)
  refine hj_iload_n 2 dX12_word_9 rfl ?_
  refine hj_callS (M' := mX12_appends) (h' := 1) (As := [.long r4, .int a2]) mfX12_appends msX12_appends mlX12_165 dX12_word_10 (kX12_appends G _ _ _) ⟨Nat.le_of_ble_eq_true rfl, Nat.le_of_ble_eq_true rfl⟩ ⟨Nat.le_refl _, Nat.le_refl _⟩ rfl (Nat.le_of_ble_eq_true rfl) (fun r6 σ5 _ => ?_)
  refine hj_iload_n 3 dX12_word_13 rfl ?_
  refine hj_callS (M' := mX12_appends) (h' := 1) (As := [.long r6, .int a3]) mfX12_appends msX12_appends mlX12_165 dX12_word_14 (kX12_appends G _ _ _) ⟨Nat.le_of_ble_eq_true rfl, Nat.le_of_ble_eq_true rfl⟩ ⟨Nat.le_refl _, Nat.le_refl _⟩ rfl (Nat.le_of_ble_eq_true rfl) (fun r8 σ7 _ => ?_)
  refine hj_iload 4 dX12_word_17 rfl ?_
  refine hj_callS (M' := mX12_appends) (h' := 1) (As := [.long r8, .int a4]) mfX12_appends msX12_appends mlX12_165 dX12_word_19 (kX12_appends G _ _ _) ⟨Nat.le_of_ble_eq_true rfl, Nat.le_of_ble_eq_true rfl⟩ ⟨Nat.le_refl _, Nat.le_refl _⟩ rfl (Nat.le_of_ble_eq_true rfl) (fun r10 σ9 _ => ?_)
  refine hj_iload 5 dX12_word_22 rfl ?_
  refine hj_callS (M' := mX12_appends) (h' := 1) (As := [.long r10, .int a5]) mfX12_appends msX12_appends mlX12_165 dX12_word_24 (kX12_appends G _ _ _) ⟨Nat.le_of_ble_eq_true rfl, Nat.le_of_ble_eq_true rfl⟩ ⟨Nat.le_refl _, Nat.le_refl _⟩ rfl (Nat.le_of_ble_eq_true rfl) (fun r12 σ11 _ => ?_)
  refine hj_iload 6 dX12_word_27 rfl ?_
  refine hj_callS (M' := mX12_appends) (h' := 1) (As := [.long r12, .int a6]) mfX12_appends msX12_appends mlX12_165 dX12_word_29 (kX12_appends G _ _ _) ⟨Nat.le_of_ble_eq_true rfl, Nat.le_of_ble_eq_true rfl⟩ ⟨Nat.le_refl _, Nat.le_refl _⟩ rfl (Nat.le_of_ble_eq_true rfl) (fun r14 σ13 _ => ?_)
  exact hj_lret dX12_word_32 rfl rfl (Nat.le_refl _)
def fX12_token (a0 : Nat) (a1 : Int32) (a2 : Int32) (a3 : Int32) (a4 : Int64) (σ : Sto) : Option (Unit × Sto) := ck σ 12 a0 ((gR σ 12 a0 5).bind fun t1 => ((gI σ 12 a0 10).bind fun t2 => ((sI σ 2 t1 t2 a1).bind fun σ3 => ((gR σ3 12 a0 6).bind fun t4 => ((gI σ3 12 a0 10).bind fun t5 => ((sI σ3 2 t4 t5 a2).bind fun σ6 => ((gR σ6 12 a0 7).bind fun t7 => ((gI σ6 12 a0 10).bind fun t8 => ((sI σ6 2 t7 t8 a3).bind fun σ9 => ((gR σ9 12 a0 8).bind fun t10 => ((gI σ9 12 a0 10).bind fun t11 => ((sL σ9 3 t10 t11 a4).bind fun σ12 => ((gI σ12 12 a0 10).bind fun t13 => ((pV σ12 12 a0 10 (.int ((t13 + ((1 : Int32)))))).bind fun σ14 => (some ((), σ14))))))))))))))))
set_option maxHeartbeats 2000000 in
theorem kX12_token (G : GP) (a0 : Nat) (a1 : Int32) (a2 : Int32) (a3 : Int32) (a4 : Int64) (σ : Sto) : Me G mX12_token 1 0 0 jV [.ref a0, .int a1, .int a2, .int a3, .long a4] σ (fX12_token a0 a1 a2 a3 a4 σ) := by
  refine hs_me (lv := [(0, .ref a0), (1, .int a1), (2, .int a2), (3, .int a3), (4, .long a4)]) (plainFor_of_name (by decide +kernel)) (Nat.le_of_ble_eq_true rfl) rfl ?_
  unfold fX12_token
  refine hj_ck ?_
  refine hj_aload_n 0 dX12_token_0 rfl ?_
  refine hj_getR flX12_20 dX12_token_1 (fun t1 _ => ?_)
  refine hj_aload_n 0 dX12_token_4 rfl ?_
  refine hj_getI flX12_169 dX12_token_5 (fun t2 _ => ?_)
  refine hj_iload_n 1 dX12_token_8 rfl ?_
  refine hj_iast dX12_token_9 (fun σ3 _ => ?_)
  refine hj_aload_n 0 dX12_token_10 rfl ?_
  refine hj_getR flX12_24 dX12_token_11 (fun t4 _ => ?_)
  refine hj_aload_n 0 dX12_token_14 rfl ?_
  refine hj_getI flX12_169 dX12_token_15 (fun t5 _ => ?_)
  refine hj_iload_n 2 dX12_token_18 rfl ?_
  refine hj_iast dX12_token_19 (fun σ6 _ => ?_)
  refine hj_aload_n 0 dX12_token_20 rfl ?_
  refine hj_getR flX12_27 dX12_token_21 (fun t7 _ => ?_)
  refine hj_aload_n 0 dX12_token_24 rfl ?_
  refine hj_getI flX12_169 dX12_token_25 (fun t8 _ => ?_)
  refine hj_iload_n 3 dX12_token_28 rfl ?_
  refine hj_iast dX12_token_29 (fun σ9 _ => ?_)
  refine hj_aload_n 0 dX12_token_30 rfl ?_
  refine hj_getR flX12_30 dX12_token_31 (fun t10 _ => ?_)
  refine hj_aload_n 0 dX12_token_34 rfl ?_
  refine hj_getI flX12_169 dX12_token_35 (fun t11 _ => ?_)
  refine hj_lload 4 dX12_token_38 rfl ?_
  refine hj_last dX12_token_40 (fun σ12 _ => ?_)
  refine hj_aload_n 0 dX12_token_41 rfl ?_
  refine hj_dup dX12_token_42 rfl ?_
  refine hj_getI flX12_169 dX12_token_43 (fun t13 _ => ?_)
  refine hj_iconst (1 : Int32) dX12_token_46 (by decide) ?_
  refine hj_iadd dX12_token_47 ?_
  refine hj_put (fpX12_169 _) (fun _ => rfl) (fun _ => rfl) dX12_token_48 (fun σ14 _ => ?_)
  exact hj_vret dX12_token_51 rfl rfl (Nat.le_refl _)
theorem cX12_tokenk {a0 : Nat} {a1 : Int32} {a2 : Int32} {a3 : Int32} {a4 : Int64} {σ : Sto} {r : Unit × Sto} (h : fX12_token a0 a1 a2 a3 a4 σ = some r) : ∃ fs, hs_o σ 12 a0 = some fs := (ck_of h).1
def fX12_sign_b95 (x0 : Nat) (x1 : Int32) (x4 : Int32) (σ : Sto) : Option (Int32 × Sto) := (cb (fX12_token x0 x4 x1 ((0 : Int32)) ((0 : Int64)) σ) fun _ σ1 => (some ((1 : Int32), σ1)))
set_option maxHeartbeats 2000000 in
theorem sX12_sign_b95 {G : GP} {n0 : Nat} : ∀ (x0 : Nat) (x1 : Int32) (x4 : Int32) (σ : Sto), Sim G mX12_sign 2 0 0 n0 jI 0 0 95 [(0, .ref x0), (1, .int x1), (4, .int x4)] [] σ (fX12_sign_b95 x0 x1 x4 σ) := by
  intro x0 x1 x4 σ
  unfold fX12_sign_b95
  refine hj_aload_n 0 dX12_sign_95 rfl ?_
  refine hj_iload 2 dX12_sign_96 rfl ?_
  refine hj_iload_n 1 dX12_sign_98 rfl ?_
  refine hj_iconst (0 : Int32) dX12_sign_99 (by decide) ?_
  refine hj_lconst (0 : Int64) dX12_sign_100 (by decide) ?_
  refine hj_callV (ci := 12) (M' := mX12_token) (h' := 1) (As := [.int x4, .int x1, .int ((0 : Int32)), .long ((0 : Int64))]) mfX12_token mvX12_token ⟨_, _, rfl⟩ mlX12_176 dX12_sign_101 (kX12_token G _ _ _ _ _ _) (fun _ hr => cX12_tokenk hr) ⟨Nat.le_of_ble_eq_true rfl, Nat.le_of_ble_eq_true rfl⟩ ⟨Nat.le_refl _, Nat.le_refl _⟩ rfl (Nat.le_of_ble_eq_true rfl) (fun _ σ1 _ => ?_)
  refine hj_iconst (1 : Int32) dX12_sign_104 (by decide) ?_
  exact hj_iret dX12_sign_105 rfl rfl (Nat.le_refl _)
def fX12_sign_b85 (x0 : Nat) (x1 : Int32) (x2 : Int32) (x4 : Int32) (σ : Sto) : Option (Int32 × Sto) := (if x2 = (60 : Int32) then (fX12_sign_b95 x0 x1 ((13 : Int32)) σ) else (fX12_sign_b95 x0 x1 x4 σ))
set_option maxHeartbeats 2000000 in
theorem sX12_sign_b85 {G : GP} {n0 : Nat} : ∀ (x0 : Nat) (x1 : Int32) (x2 : Int32) (x4 : Int32) (σ : Sto), Sim G mX12_sign 2 0 0 n0 jI 0 0 85 [(0, .ref x0), (1, .int x1), (2, .int x2), (4, .int x4)] [] σ (fX12_sign_b85 x0 x1 x2 x4 σ) := by
  intro x0 x1 x2 x4 σ
  unfold fX12_sign_b85
  refine hj_iload_n 2 dX12_sign_85 rfl ?_
  refine hj_bipush (60 : Int32) dX12_sign_86 (by decide) ?_
  refine hj_icmp_ne 95 dX12_sign_88 (by decide) (fun _ => ?_) (fun _ => ?_)
  · refine hj_loc (lv' := [(0, .ref x0), (1, .int x1), (4, .int x4)]) [0, 1, 3] rfl ?_
    exact sX12_sign_b95 _ _ _ _
  · refine hj_bipush (13 : Int32) dX12_sign_91 (by decide) ?_
    refine hj_istore (lv' := [(0, .ref x0), (1, .int x1), (2, .int x2), (4, .int (13 : Int32))]) dX12_sign_93 (by decide) [1, 2, 3, 0] rfl ?_
    refine hj_loc (lv' := [(0, .ref x0), (1, .int x1), (4, .int (13 : Int32))]) [0, 1, 3] rfl ?_
    exact sX12_sign_b95 _ _ _ _
def fX12_sign_b75 (x0 : Nat) (x1 : Int32) (x2 : Int32) (x4 : Int32) (σ : Sto) : Option (Int32 × Sto) := (if x2 = (47 : Int32) then (fX12_sign_b85 x0 x1 x2 ((15 : Int32)) σ) else (fX12_sign_b85 x0 x1 x2 x4 σ))
set_option maxHeartbeats 2000000 in
theorem sX12_sign_b75 {G : GP} {n0 : Nat} : ∀ (x0 : Nat) (x1 : Int32) (x2 : Int32) (x4 : Int32) (σ : Sto), Sim G mX12_sign 2 0 0 n0 jI 0 0 75 [(0, .ref x0), (1, .int x1), (2, .int x2), (4, .int x4)] [] σ (fX12_sign_b75 x0 x1 x2 x4 σ) := by
  intro x0 x1 x2 x4 σ
  unfold fX12_sign_b75
  refine hj_iload_n 2 dX12_sign_75 rfl ?_
  refine hj_bipush (47 : Int32) dX12_sign_76 (by decide) ?_
  refine hj_icmp_ne 85 dX12_sign_78 (by decide) (fun _ => ?_) (fun _ => ?_)
  · refine hj_loc (lv' := [(0, .ref x0), (1, .int x1), (2, .int x2), (4, .int x4)]) [0, 1, 2, 3] rfl ?_
    exact sX12_sign_b85 _ _ _ _ _
  · refine hj_bipush (15 : Int32) dX12_sign_81 (by decide) ?_
    refine hj_istore (lv' := [(0, .ref x0), (1, .int x1), (2, .int x2), (4, .int (15 : Int32))]) dX12_sign_83 (by decide) [1, 2, 3, 0] rfl ?_
    refine hj_loc (lv' := [(0, .ref x0), (1, .int x1), (2, .int x2), (4, .int (15 : Int32))]) [0, 1, 2, 3] rfl ?_
    exact sX12_sign_b85 _ _ _ _ _
def fX12_sign_b65 (x0 : Nat) (x1 : Int32) (x2 : Int32) (x4 : Int32) (σ : Sto) : Option (Int32 × Sto) := (if x2 = (42 : Int32) then (fX12_sign_b75 x0 x1 x2 ((10 : Int32)) σ) else (fX12_sign_b75 x0 x1 x2 x4 σ))
set_option maxHeartbeats 2000000 in
theorem sX12_sign_b65 {G : GP} {n0 : Nat} : ∀ (x0 : Nat) (x1 : Int32) (x2 : Int32) (x4 : Int32) (σ : Sto), Sim G mX12_sign 2 0 0 n0 jI 0 0 65 [(0, .ref x0), (1, .int x1), (2, .int x2), (4, .int x4)] [] σ (fX12_sign_b65 x0 x1 x2 x4 σ) := by
  intro x0 x1 x2 x4 σ
  unfold fX12_sign_b65
  refine hj_iload_n 2 dX12_sign_65 rfl ?_
  refine hj_bipush (42 : Int32) dX12_sign_66 (by decide) ?_
  refine hj_icmp_ne 75 dX12_sign_68 (by decide) (fun _ => ?_) (fun _ => ?_)
  · refine hj_loc (lv' := [(0, .ref x0), (1, .int x1), (2, .int x2), (4, .int x4)]) [0, 1, 2, 3] rfl ?_
    exact sX12_sign_b75 _ _ _ _ _
  · refine hj_bipush (10 : Int32) dX12_sign_71 (by decide) ?_
    refine hj_istore (lv' := [(0, .ref x0), (1, .int x1), (2, .int x2), (4, .int (10 : Int32))]) dX12_sign_73 (by decide) [1, 2, 3, 0] rfl ?_
    refine hj_loc (lv' := [(0, .ref x0), (1, .int x1), (2, .int x2), (4, .int (10 : Int32))]) [0, 1, 2, 3] rfl ?_
    exact sX12_sign_b75 _ _ _ _ _
def fX12_sign_b55 (x0 : Nat) (x1 : Int32) (x2 : Int32) (x4 : Int32) (σ : Sto) : Option (Int32 × Sto) := (if x2 = (45 : Int32) then (fX12_sign_b65 x0 x1 x2 ((9 : Int32)) σ) else (fX12_sign_b65 x0 x1 x2 x4 σ))
set_option maxHeartbeats 2000000 in
theorem sX12_sign_b55 {G : GP} {n0 : Nat} : ∀ (x0 : Nat) (x1 : Int32) (x2 : Int32) (x4 : Int32) (σ : Sto), Sim G mX12_sign 2 0 0 n0 jI 0 0 55 [(0, .ref x0), (1, .int x1), (2, .int x2), (4, .int x4)] [] σ (fX12_sign_b55 x0 x1 x2 x4 σ) := by
  intro x0 x1 x2 x4 σ
  unfold fX12_sign_b55
  refine hj_iload_n 2 dX12_sign_55 rfl ?_
  refine hj_bipush (45 : Int32) dX12_sign_56 (by decide) ?_
  refine hj_icmp_ne 65 dX12_sign_58 (by decide) (fun _ => ?_) (fun _ => ?_)
  · refine hj_loc (lv' := [(0, .ref x0), (1, .int x1), (2, .int x2), (4, .int x4)]) [0, 1, 2, 3] rfl ?_
    exact sX12_sign_b65 _ _ _ _ _
  · refine hj_bipush (9 : Int32) dX12_sign_61 (by decide) ?_
    refine hj_istore (lv' := [(0, .ref x0), (1, .int x1), (2, .int x2), (4, .int (9 : Int32))]) dX12_sign_63 (by decide) [1, 2, 3, 0] rfl ?_
    refine hj_loc (lv' := [(0, .ref x0), (1, .int x1), (2, .int x2), (4, .int (9 : Int32))]) [0, 1, 2, 3] rfl ?_
    exact sX12_sign_b65 _ _ _ _ _
def fX12_sign_b43 (x0 : Nat) (x1 : Int32) (x2 : Int32) (y0 : Int32) (σ : Sto) : Option (Int32 × Sto) := (if x2 = (43 : Int32) then (fX12_sign_b55 x0 x1 x2 ((8 : Int32)) σ) else (fX12_sign_b55 x0 x1 x2 y0 σ))
set_option maxHeartbeats 2000000 in
theorem sX12_sign_b43 {G : GP} {n0 : Nat} : ∀ (x0 : Nat) (x1 : Int32) (x2 : Int32) (y0 : Int32) (σ : Sto), Sim G mX12_sign 2 0 0 n0 jI 0 0 43 [(0, .ref x0), (1, .int x1), (2, .int x2)] [.int y0] σ (fX12_sign_b43 x0 x1 x2 y0 σ) := by
  intro x0 x1 x2 y0 σ
  unfold fX12_sign_b43
  refine hj_istore (lv' := [(0, .ref x0), (1, .int x1), (2, .int x2), (4, .int y0)]) dX12_sign_43 (by decide) [1, 2, 3, 0] rfl ?_
  refine hj_iload_n 2 dX12_sign_45 rfl ?_
  refine hj_bipush (43 : Int32) dX12_sign_46 (by decide) ?_
  refine hj_icmp_ne 55 dX12_sign_48 (by decide) (fun _ => ?_) (fun _ => ?_)
  · refine hj_loc (lv' := [(0, .ref x0), (1, .int x1), (2, .int x2), (4, .int y0)]) [0, 1, 2, 3] rfl ?_
    exact sX12_sign_b55 _ _ _ _ _
  · refine hj_bipush (8 : Int32) dX12_sign_51 (by decide) ?_
    refine hj_istore (lv' := [(0, .ref x0), (1, .int x1), (2, .int x2), (4, .int (8 : Int32))]) dX12_sign_53 (by decide) [1, 2, 3, 0] rfl ?_
    refine hj_loc (lv' := [(0, .ref x0), (1, .int x1), (2, .int x2), (4, .int (8 : Int32))]) [0, 1, 2, 3] rfl ?_
    exact sX12_sign_b55 _ _ _ _ _
def fX12_sign (a0 : Nat) (a1 : Int32) (a2 : Int32) (a3 : Int32) (σ : Sto) : Option (Int32 × Sto) := ck σ 12 a0 (if a2 = (59 : Int32) then (fX12_sign_b43 a0 a1 a2 ((4 : Int32)) σ) else (if a2 = (61 : Int32) then (fX12_sign_b43 a0 a1 a2 ((5 : Int32)) σ) else (if a2 = (40 : Int32) then (fX12_sign_b43 a0 a1 a2 ((6 : Int32)) σ) else (if a2 = (41 : Int32) then (fX12_sign_b43 a0 a1 a2 ((7 : Int32)) σ) else (fX12_sign_b43 a0 a1 a2 ((3 : Int32)) σ)))))
set_option maxHeartbeats 2000000 in
theorem kX12_sign (G : GP) (a0 : Nat) (a1 : Int32) (a2 : Int32) (a3 : Int32) (σ : Sto) : Me G mX12_sign 2 0 0 jI [.ref a0, .int a1, .int a2, .int a3] σ (fX12_sign a0 a1 a2 a3 σ) := by
  refine hs_me (lv := [(0, .ref a0), (1, .int a1), (2, .int a2), (3, .int a3)]) (plainFor_of_name (by decide +kernel)) (Nat.le_of_ble_eq_true rfl) rfl ?_
  unfold fX12_sign
  refine hj_ck ?_
  refine hj_iload_n 2 dX12_sign_0 rfl ?_
  refine hj_bipush (59 : Int32) dX12_sign_1 (by decide) ?_
  refine hj_icmp_ne 10 dX12_sign_3 (by decide) (fun _ => ?_) (fun _ => ?_)
  · refine hj_iload_n 2 dX12_sign_10 rfl ?_
    refine hj_bipush (61 : Int32) dX12_sign_11 (by decide) ?_
    refine hj_icmp_ne 20 dX12_sign_13 (by decide) (fun _ => ?_) (fun _ => ?_)
    · refine hj_iload_n 2 dX12_sign_20 rfl ?_
      refine hj_bipush (40 : Int32) dX12_sign_21 (by decide) ?_
      refine hj_icmp_ne 31 dX12_sign_23 (by decide) (fun _ => ?_) (fun _ => ?_)
      · refine hj_iload_n 2 dX12_sign_31 rfl ?_
        refine hj_bipush (41 : Int32) dX12_sign_32 (by decide) ?_
        refine hj_icmp_ne 42 dX12_sign_34 (by decide) (fun _ => ?_) (fun _ => ?_)
        · refine hj_iconst (3 : Int32) dX12_sign_42 (by decide) ?_
          refine hj_loc (lv' := [(0, .ref a0), (1, .int a1), (2, .int a2)]) [0, 1, 2] rfl ?_
          exact sX12_sign_b43 _ _ _ _ _
        · refine hj_bipush (7 : Int32) dX12_sign_37 (by decide) ?_
          refine hj_goto 43 dX12_sign_39 (by decide) ?_
          refine hj_loc (lv' := [(0, .ref a0), (1, .int a1), (2, .int a2)]) [0, 1, 2] rfl ?_
          exact sX12_sign_b43 _ _ _ _ _
      · refine hj_bipush (6 : Int32) dX12_sign_26 (by decide) ?_
        refine hj_goto 43 dX12_sign_28 (by decide) ?_
        refine hj_loc (lv' := [(0, .ref a0), (1, .int a1), (2, .int a2)]) [0, 1, 2] rfl ?_
        exact sX12_sign_b43 _ _ _ _ _
    · refine hj_iconst (5 : Int32) dX12_sign_16 (by decide) ?_
      refine hj_goto 43 dX12_sign_17 (by decide) ?_
      refine hj_loc (lv' := [(0, .ref a0), (1, .int a1), (2, .int a2)]) [0, 1, 2] rfl ?_
      exact sX12_sign_b43 _ _ _ _ _
  · refine hj_iconst (4 : Int32) dX12_sign_6 (by decide) ?_
    refine hj_goto 43 dX12_sign_7 (by decide) ?_
    refine hj_loc (lv' := [(0, .ref a0), (1, .int a1), (2, .int a2)]) [0, 1, 2] rfl ?_
    exact sX12_sign_b43 _ _ _ _ _
theorem cX12_signk {a0 : Nat} {a1 : Int32} {a2 : Int32} {a3 : Int32} {σ : Sto} {r : Int32 × Sto} (h : fX12_sign a0 a1 a2 a3 σ = some r) : ∃ fs, hs_o σ 12 a0 = some fs := (ck_of h).1
def fX12_cut_b291 (K7 : Nat → Int32 → Sto → Option (Unit × Sto)) (x0 : Nat) (x1 : Int32) (σ : Sto) : Option (Unit × Sto) := (K7 x0 x1 σ)
set_option maxHeartbeats 2000000 in
theorem sX12_cut_b291 {G : GP} {n0 : Nat} {K7 : Nat → Int32 → Sto → Option (Unit × Sto)} (hK7 : ∀ (x0 : Nat) (x1 : Int32) (σ : Sto), Sim G mX12_cut 3 0 0 n0 jV 0 0 7 [(0, .ref x0), (1, .int x1)] [] σ (K7 x0 x1 σ)) : ∀ (x0 : Nat) (x1 : Int32) (σ : Sto), Sim G mX12_cut 3 0 0 n0 jV 0 0 291 [(0, .ref x0), (1, .int x1)] [] σ (fX12_cut_b291 K7 x0 x1 σ) := by
  intro x0 x1 σ
  unfold fX12_cut_b291
  refine hj_goto 7 dX12_cut_291 (by decide) ?_
  refine hj_loc (lv' := [(0, .ref x0), (1, .int x1)]) [0, 1] rfl ?_
  exact hK7 _ _ _
def fX12_cut_b67 (K7 : Nat → Int32 → Sto → Option (Unit × Sto)) (x0 : Nat) (x1 : Int32) (σ : Sto) : Option (Unit × Sto) := (fX12_cut_b291 K7 x0 (x1 + (1 : Int32)) σ)
set_option maxHeartbeats 2000000 in
theorem sX12_cut_b67 {G : GP} {n0 : Nat} {K7 : Nat → Int32 → Sto → Option (Unit × Sto)} (hK7 : ∀ (x0 : Nat) (x1 : Int32) (σ : Sto), Sim G mX12_cut 3 0 0 n0 jV 0 0 7 [(0, .ref x0), (1, .int x1)] [] σ (K7 x0 x1 σ)) : ∀ (x0 : Nat) (x1 : Int32) (σ : Sto), Sim G mX12_cut 3 0 0 n0 jV 0 0 67 [(0, .ref x0), (1, .int x1)] [] σ (fX12_cut_b67 K7 x0 x1 σ) := by
  intro x0 x1 σ
  unfold fX12_cut_b67
  refine hj_iinc (lv' := [(0, .ref x0), (1, .int (x1 + (1 : Int32)))]) 1 (1 : Int32) dX12_cut_67 rfl (by decide) (by decide) [1, 0] rfl ?_
  refine hj_goto 291 dX12_cut_70 (by decide) ?_
  refine hj_loc (lv' := [(0, .ref x0), (1, .int (x1 + (1 : Int32)))]) [0, 1] rfl ?_
  exact sX12_cut_b291 hK7 _ _ _
def fX12_cut_b261 (K7 : Nat → Int32 → Sto → Option (Unit × Sto)) (x0 : Nat) (x1 : Int32) (x3 : Int32) (x4 : Int32) (y0 : Nat) (y1 : Int32) (σ : Sto) : Option (Unit × Sto) := (cb (fX12_token y0 y1 x1 x4 ((0 : Int64)) σ) fun _ σ1 => (lt ((x1 + x3)) fun v2 => (fX12_cut_b291 K7 x0 v2 σ1)))
set_option maxHeartbeats 2000000 in
theorem sX12_cut_b261 {G : GP} {n0 : Nat} {K7 : Nat → Int32 → Sto → Option (Unit × Sto)} (hK7 : ∀ (x0 : Nat) (x1 : Int32) (σ : Sto), Sim G mX12_cut 3 0 0 n0 jV 0 0 7 [(0, .ref x0), (1, .int x1)] [] σ (K7 x0 x1 σ)) : ∀ (x0 : Nat) (x1 : Int32) (x3 : Int32) (x4 : Int32) (y0 : Nat) (y1 : Int32) (σ : Sto), Sim G mX12_cut 3 0 0 n0 jV 0 0 261 [(0, .ref x0), (1, .int x1), (3, .int x3), (4, .int x4)] [.int y1, .ref y0] σ (fX12_cut_b261 K7 x0 x1 x3 x4 y0 y1 σ) := by
  intro x0 x1 x3 x4 y0 y1 σ
  unfold fX12_cut_b261
  refine hj_iload_n 1 dX12_cut_261 rfl ?_
  refine hj_iload 3 dX12_cut_262 rfl ?_
  refine hj_lconst (0 : Int64) dX12_cut_264 (by decide) ?_
  refine hj_callV (ci := 12) (M' := mX12_token) (h' := 1) (As := [.int y1, .int x1, .int x4, .long ((0 : Int64))]) mfX12_token mvX12_token ⟨_, _, rfl⟩ mlX12_176 dX12_cut_265 (kX12_token G _ _ _ _ _ _) (fun _ hr => cX12_tokenk hr) ⟨Nat.le_of_ble_eq_true rfl, Nat.le_of_ble_eq_true rfl⟩ ⟨Nat.le_refl _, Nat.le_refl _⟩ rfl (Nat.le_of_ble_eq_true rfl) (fun _ σ1 _ => ?_)
  refine hj_iload_n 1 dX12_cut_268 rfl ?_
  refine hj_iload_n 2 dX12_cut_269 rfl ?_
  refine hj_iadd dX12_cut_270 ?_
  refine hj_ltI (fun v2 _ => ?_)
  refine hj_istore_n (lv' := [(0, .ref x0), (1, .int v2), (3, .int x3), (4, .int x4)]) dX12_cut_271 (by decide) [1, 0, 2, 3] rfl ?_
  refine hj_goto 291 dX12_cut_272 (by decide) ?_
  refine hj_loc (lv' := [(0, .ref x0), (1, .int v2)]) [0, 1] rfl ?_
  exact sX12_cut_b291 hK7 _ _ _
def fX12_cut_b250 (K7 : Nat → Int32 → Sto → Option (Unit × Sto)) (x0 : Nat) (x1 : Int32) (x3 : Int32) (x4 : Int32) (σ : Sto) : Option (Unit × Sto) := (if x3 ≤ (4 : Int32) then (fX12_cut_b261 K7 x0 x1 x3 x4 x0 ((2 : Int32)) σ) else (fX12_cut_b261 K7 x0 x1 x3 x4 x0 ((3 : Int32)) σ))
set_option maxHeartbeats 2000000 in
theorem sX12_cut_b250 {G : GP} {n0 : Nat} {K7 : Nat → Int32 → Sto → Option (Unit × Sto)} (hK7 : ∀ (x0 : Nat) (x1 : Int32) (σ : Sto), Sim G mX12_cut 3 0 0 n0 jV 0 0 7 [(0, .ref x0), (1, .int x1)] [] σ (K7 x0 x1 σ)) : ∀ (x0 : Nat) (x1 : Int32) (x3 : Int32) (x4 : Int32) (σ : Sto), Sim G mX12_cut 3 0 0 n0 jV 0 0 250 [(0, .ref x0), (1, .int x1), (3, .int x3), (4, .int x4)] [] σ (fX12_cut_b250 K7 x0 x1 x3 x4 σ) := by
  intro x0 x1 x3 x4 σ
  unfold fX12_cut_b250
  refine hj_aload_n 0 dX12_cut_250 rfl ?_
  refine hj_iload_n 2 dX12_cut_251 rfl ?_
  refine hj_iconst (4 : Int32) dX12_cut_252 (by decide) ?_
  refine hj_icmp_le 260 dX12_cut_253 (by decide) (fun _ => ?_) (fun _ => ?_)
  · refine hj_iconst (2 : Int32) dX12_cut_260 (by decide) ?_
    refine hj_loc (lv' := [(0, .ref x0), (1, .int x1), (3, .int x3), (4, .int x4)]) [0, 1, 2, 3] rfl ?_
    exact sX12_cut_b261 hK7 _ _ _ _ _ _ _
  · refine hj_iconst (3 : Int32) dX12_cut_256 (by decide) ?_
    refine hj_goto 261 dX12_cut_257 (by decide) ?_
    refine hj_loc (lv' := [(0, .ref x0), (1, .int x1), (3, .int x3), (4, .int x4)]) [0, 1, 2, 3] rfl ?_
    exact sX12_cut_b261 hK7 _ _ _ _ _ _ _
def fX12_cut_b244 (K7 : Nat → Int32 → Sto → Option (Unit × Sto)) (K208 : Nat → Int32 → Int32 → Int32 → Sto → Option (Unit × Sto)) (x0 : Nat) (x1 : Int32) (x3 : Int32) (x4 : Int32) (σ : Sto) : Option (Unit × Sto) := (K208 x0 x1 (x3 + (1 : Int32)) x4 σ)
set_option maxHeartbeats 2000000 in
theorem sX12_cut_b244 {G : GP} {n0 : Nat} {K7 : Nat → Int32 → Sto → Option (Unit × Sto)} (hK7 : ∀ (x0 : Nat) (x1 : Int32) (σ : Sto), Sim G mX12_cut 3 0 0 n0 jV 0 0 7 [(0, .ref x0), (1, .int x1)] [] σ (K7 x0 x1 σ)) {K208 : Nat → Int32 → Int32 → Int32 → Sto → Option (Unit × Sto)} (hK208 : ∀ (x0 : Nat) (x1 : Int32) (x3 : Int32) (x4 : Int32) (σ : Sto), Sim G mX12_cut 3 0 0 n0 jV 0 0 208 [(0, .ref x0), (1, .int x1), (3, .int x3), (4, .int x4)] [] σ (K208 x0 x1 x3 x4 σ)) : ∀ (x0 : Nat) (x1 : Int32) (x3 : Int32) (x4 : Int32) (σ : Sto), Sim G mX12_cut 3 0 0 n0 jV 0 0 244 [(0, .ref x0), (1, .int x1), (3, .int x3), (4, .int x4)] [] σ (fX12_cut_b244 K7 K208 x0 x1 x3 x4 σ) := by
  intro x0 x1 x3 x4 σ
  unfold fX12_cut_b244
  refine hj_iinc (lv' := [(0, .ref x0), (1, .int x1), (3, .int (x3 + (1 : Int32))), (4, .int x4)]) 2 (1 : Int32) dX12_cut_244 rfl (by decide) (by decide) [1, 2, 0, 3] rfl ?_
  refine hj_goto 208 dX12_cut_247 (by decide) ?_
  refine hj_loc (lv' := [(0, .ref x0), (1, .int x1), (3, .int (x3 + (1 : Int32))), (4, .int x4)]) [0, 1, 2, 3] rfl ?_
  exact hK208 _ _ _ _ _
def fX12_cut_b208 (K7 : Nat → Int32 → Sto → Option (Unit × Sto)) : Nat → Nat → Int32 → Int32 → Int32 → Sto → Option (Unit × Sto)
  | 0, _, _, _, _, _ => none
  | n + 1, x0, x1, x3, x4, σ => (cb (fX12_byteAt x0 ((x1 + x3)) σ) fun r17 σ16 => (cb (fX12_isDigit r17 σ16) fun r19 σ18 => (if r19 = 0 then (fX12_cut_b250 K7 x0 x1 x3 x4 σ18) else (if (4 : Int32) ≤ x3 then (fX12_cut_b244 K7 (fX12_cut_b208 K7 n) x0 x1 x3 x4 σ18) else (cb (fX12_byteAt x0 ((x1 + x3)) σ18) fun r21 σ20 => (lt ((((((((10 : Int32)) * x4)) + r21)) - ((48 : Int32)))) fun v22 => (fX12_cut_b244 K7 (fX12_cut_b208 K7 n) x0 x1 x3 v22 σ20)))))))
set_option maxHeartbeats 2000000 in
theorem sX12_cut_b208 {G : GP} {n0 : Nat} {K7 : Nat → Int32 → Sto → Option (Unit × Sto)} (hK7 : ∀ (x0 : Nat) (x1 : Int32) (σ : Sto), Sim G mX12_cut 3 0 0 n0 jV 0 0 7 [(0, .ref x0), (1, .int x1)] [] σ (K7 x0 x1 σ)) : ∀ (n : Nat) (x0 : Nat) (x1 : Int32) (x3 : Int32) (x4 : Int32) (σ : Sto), Sim G mX12_cut 3 0 0 n0 jV 0 0 208 [(0, .ref x0), (1, .int x1), (3, .int x3), (4, .int x4)] [] σ (fX12_cut_b208 K7 n x0 x1 x3 x4 σ) := by
  intro n
  induction n with
  | zero => intros; rw [fX12_cut_b208]; exact hj_none
  | succ n ih =>
    intro x0 x1 x3 x4 σ
    rw [fX12_cut_b208]
    refine hj_aload_n 0 dX12_cut_208 rfl ?_
    refine hj_iload_n 1 dX12_cut_209 rfl ?_
    refine hj_iload_n 2 dX12_cut_210 rfl ?_
    refine hj_iadd dX12_cut_211 ?_
    refine hj_callV (ci := 12) (M' := mX12_byteAt) (h' := 1) (As := [.int ((x1 + x3))]) mfX12_byteAt mvX12_byteAt ⟨_, _, rfl⟩ mlX12_172 dX12_cut_212 (kX12_byteAt G _ _ _) (fun _ hr => cX12_byteAtk hr) ⟨Nat.le_of_ble_eq_true rfl, Nat.le_of_ble_eq_true rfl⟩ ⟨Nat.le_refl _, Nat.le_refl _⟩ rfl (Nat.le_of_ble_eq_true rfl) (fun r17 σ16 _ => ?_)
    refine hj_callS (M' := mX12_isDigit) (h' := 1) (As := [.int r17]) mfX12_isDigit msX12_isDigit mlX12_184 dX12_cut_215 (kX12_isDigit G _ _) ⟨Nat.le_of_ble_eq_true rfl, Nat.le_of_ble_eq_true rfl⟩ ⟨Nat.le_refl _, Nat.le_refl _⟩ rfl (Nat.le_of_ble_eq_true rfl) (fun r19 σ18 _ => ?_)
    refine hj_if_eq 250 dX12_cut_218 (by decide) (fun _ => ?_) (fun _ => ?_)
    · refine hj_loc (lv' := [(0, .ref x0), (1, .int x1), (3, .int x3), (4, .int x4)]) [0, 1, 2, 3] rfl ?_
      exact sX12_cut_b250 hK7 _ _ _ _ _
    · refine hj_iload_n 2 dX12_cut_221 rfl ?_
      refine hj_iconst (4 : Int32) dX12_cut_222 (by decide) ?_
      refine hj_icmp_ge 244 dX12_cut_223 (by decide) (fun _ => ?_) (fun _ => ?_)
      · refine hj_loc (lv' := [(0, .ref x0), (1, .int x1), (3, .int x3), (4, .int x4)]) [0, 1, 2, 3] rfl ?_
        exact sX12_cut_b244 hK7 ih _ _ _ _ _
      · refine hj_bipush (10 : Int32) dX12_cut_226 (by decide) ?_
        refine hj_iload 3 dX12_cut_228 rfl ?_
        refine hj_imul dX12_cut_230 ?_
        refine hj_aload_n 0 dX12_cut_231 rfl ?_
        refine hj_iload_n 1 dX12_cut_232 rfl ?_
        refine hj_iload_n 2 dX12_cut_233 rfl ?_
        refine hj_iadd dX12_cut_234 ?_
        refine hj_callV (ci := 12) (M' := mX12_byteAt) (h' := 1) (As := [.int ((x1 + x3))]) mfX12_byteAt mvX12_byteAt ⟨_, _, rfl⟩ mlX12_172 dX12_cut_235 (kX12_byteAt G _ _ _) (fun _ hr => cX12_byteAtk hr) ⟨Nat.le_of_ble_eq_true rfl, Nat.le_of_ble_eq_true rfl⟩ ⟨Nat.le_refl _, Nat.le_refl _⟩ rfl (Nat.le_of_ble_eq_true rfl) (fun r21 σ20 _ => ?_)
        refine hj_iadd dX12_cut_238 ?_
        refine hj_bipush (48 : Int32) dX12_cut_239 (by decide) ?_
        refine hj_isub dX12_cut_241 ?_
        refine hj_ltI (fun v22 _ => ?_)
        refine hj_istore (lv' := [(0, .ref x0), (1, .int x1), (3, .int x3), (4, .int v22)]) dX12_cut_242 (by decide) [1, 2, 3, 0] rfl ?_
        refine hj_loc (lv' := [(0, .ref x0), (1, .int x1), (3, .int x3), (4, .int v22)]) [0, 1, 2, 3] rfl ?_
        exact sX12_cut_b244 hK7 ih _ _ _ _ _
def fX12_cut_b179 (K7 : Nat → Int32 → Sto → Option (Unit × Sto)) (x0 : Nat) (x1 : Int32) (x3 : Int32) (x4 : Int64) (x6 : Int32) (σ : Sto) : Option (Unit × Sto) := (cb (fX12_token x0 x6 x1 ((0 : Int32)) x4 σ) fun _ σ26 => (lt ((x1 + x3)) fun v27 => (fX12_cut_b291 K7 x0 v27 σ26)))
set_option maxHeartbeats 2000000 in
theorem sX12_cut_b179 {G : GP} {n0 : Nat} {K7 : Nat → Int32 → Sto → Option (Unit × Sto)} (hK7 : ∀ (x0 : Nat) (x1 : Int32) (σ : Sto), Sim G mX12_cut 3 0 0 n0 jV 0 0 7 [(0, .ref x0), (1, .int x1)] [] σ (K7 x0 x1 σ)) : ∀ (x0 : Nat) (x1 : Int32) (x3 : Int32) (x4 : Int64) (x6 : Int32) (σ : Sto), Sim G mX12_cut 3 0 0 n0 jV 0 0 179 [(0, .ref x0), (1, .int x1), (3, .int x3), (4, .long x4), (6, .int x6)] [] σ (fX12_cut_b179 K7 x0 x1 x3 x4 x6 σ) := by
  intro x0 x1 x3 x4 x6 σ
  unfold fX12_cut_b179
  refine hj_aload_n 0 dX12_cut_179 rfl ?_
  refine hj_iload 4 dX12_cut_180 rfl ?_
  refine hj_iload_n 1 dX12_cut_182 rfl ?_
  refine hj_iconst (0 : Int32) dX12_cut_183 (by decide) ?_
  refine hj_lload 3 dX12_cut_184 rfl ?_
  refine hj_callV (ci := 12) (M' := mX12_token) (h' := 1) (As := [.int x6, .int x1, .int ((0 : Int32)), .long x4]) mfX12_token mvX12_token ⟨_, _, rfl⟩ mlX12_176 dX12_cut_186 (kX12_token G _ _ _ _ _ _) (fun _ hr => cX12_tokenk hr) ⟨Nat.le_of_ble_eq_true rfl, Nat.le_of_ble_eq_true rfl⟩ ⟨Nat.le_refl _, Nat.le_refl _⟩ rfl (Nat.le_of_ble_eq_true rfl) (fun _ σ26 _ => ?_)
  refine hj_iload_n 1 dX12_cut_189 rfl ?_
  refine hj_iload_n 2 dX12_cut_190 rfl ?_
  refine hj_iadd dX12_cut_191 ?_
  refine hj_ltI (fun v27 _ => ?_)
  refine hj_istore_n (lv' := [(0, .ref x0), (1, .int v27), (3, .int x3), (4, .long x4), (6, .int x6)]) dX12_cut_192 (by decide) [1, 0, 2, 3, 4] rfl ?_
  refine hj_goto 291 dX12_cut_193 (by decide) ?_
  refine hj_loc (lv' := [(0, .ref x0), (1, .int v27)]) [0, 1] rfl ?_
  exact sX12_cut_b291 hK7 _ _ _
def fX12_cut_b173 (K7 : Nat → Int32 → Sto → Option (Unit × Sto)) (K146 : Nat → Int32 → Int32 → Int64 → Int32 → Int32 → Sto → Option (Unit × Sto)) (x0 : Nat) (x1 : Int32) (x3 : Int32) (x4 : Int64) (x6 : Int32) (x7 : Int32) (σ : Sto) : Option (Unit × Sto) := (K146 x0 x1 x3 x4 x6 (x7 + (1 : Int32)) σ)
set_option maxHeartbeats 2000000 in
theorem sX12_cut_b173 {G : GP} {n0 : Nat} {K7 : Nat → Int32 → Sto → Option (Unit × Sto)} (hK7 : ∀ (x0 : Nat) (x1 : Int32) (σ : Sto), Sim G mX12_cut 3 0 0 n0 jV 0 0 7 [(0, .ref x0), (1, .int x1)] [] σ (K7 x0 x1 σ)) {K146 : Nat → Int32 → Int32 → Int64 → Int32 → Int32 → Sto → Option (Unit × Sto)} (hK146 : ∀ (x0 : Nat) (x1 : Int32) (x3 : Int32) (x4 : Int64) (x6 : Int32) (x7 : Int32) (σ : Sto), Sim G mX12_cut 3 0 0 n0 jV 0 0 146 [(0, .ref x0), (1, .int x1), (3, .int x3), (4, .long x4), (6, .int x6), (7, .int x7)] [] σ (K146 x0 x1 x3 x4 x6 x7 σ)) : ∀ (x0 : Nat) (x1 : Int32) (x3 : Int32) (x4 : Int64) (x6 : Int32) (x7 : Int32) (σ : Sto), Sim G mX12_cut 3 0 0 n0 jV 0 0 173 [(0, .ref x0), (1, .int x1), (3, .int x3), (4, .long x4), (6, .int x6), (7, .int x7)] [] σ (fX12_cut_b173 K7 K146 x0 x1 x3 x4 x6 x7 σ) := by
  intro x0 x1 x3 x4 x6 x7 σ
  unfold fX12_cut_b173
  refine hj_iinc (lv' := [(0, .ref x0), (1, .int x1), (3, .int x3), (4, .long x4), (6, .int x6), (7, .int (x7 + (1 : Int32)))]) 5 (1 : Int32) dX12_cut_173 rfl (by decide) (by decide) [1, 2, 3, 4, 5, 0] rfl ?_
  refine hj_goto 146 dX12_cut_176 (by decide) ?_
  refine hj_loc (lv' := [(0, .ref x0), (1, .int x1), (3, .int x3), (4, .long x4), (6, .int x6), (7, .int (x7 + (1 : Int32)))]) [0, 1, 2, 3, 4, 5] rfl ?_
  exact hK146 _ _ _ _ _ _ _
def fX12_cut_b146 (K7 : Nat → Int32 → Sto → Option (Unit × Sto)) : Nat → Nat → Int32 → Int32 → Int64 → Int32 → Int32 → Sto → Option (Unit × Sto)
  | 0, _, _, _, _, _, _, _ => none
  | n + 1, x0, x1, x3, x4, x6, x7, σ => (if (16 : Int32) ≤ x7 then (fX12_cut_b179 K7 x0 x1 x3 x4 x6 σ) else ((gR σ 12 x0 9).bind fun t23 => ((aL σ 3 t23 x7).bind fun t24 => (if (lg_cmp t24 x4) = 0 then (lt ((((20 : Int32)) + x7)) fun v25 => (fX12_cut_b173 K7 (fX12_cut_b146 K7 n) x0 x1 x3 x4 v25 x7 σ)) else (fX12_cut_b173 K7 (fX12_cut_b146 K7 n) x0 x1 x3 x4 x6 x7 σ)))))
set_option maxHeartbeats 2000000 in
theorem sX12_cut_b146 {G : GP} {n0 : Nat} {K7 : Nat → Int32 → Sto → Option (Unit × Sto)} (hK7 : ∀ (x0 : Nat) (x1 : Int32) (σ : Sto), Sim G mX12_cut 3 0 0 n0 jV 0 0 7 [(0, .ref x0), (1, .int x1)] [] σ (K7 x0 x1 σ)) : ∀ (n : Nat) (x0 : Nat) (x1 : Int32) (x3 : Int32) (x4 : Int64) (x6 : Int32) (x7 : Int32) (σ : Sto), Sim G mX12_cut 3 0 0 n0 jV 0 0 146 [(0, .ref x0), (1, .int x1), (3, .int x3), (4, .long x4), (6, .int x6), (7, .int x7)] [] σ (fX12_cut_b146 K7 n x0 x1 x3 x4 x6 x7 σ) := by
  intro n
  induction n with
  | zero => intros; rw [fX12_cut_b146]; exact hj_none
  | succ n ih =>
    intro x0 x1 x3 x4 x6 x7 σ
    rw [fX12_cut_b146]
    refine hj_iload 5 dX12_cut_146 rfl ?_
    refine hj_bipush (16 : Int32) dX12_cut_148 (by decide) ?_
    refine hj_icmp_ge 179 dX12_cut_150 (by decide) (fun _ => ?_) (fun _ => ?_)
    · refine hj_loc (lv' := [(0, .ref x0), (1, .int x1), (3, .int x3), (4, .long x4), (6, .int x6)]) [0, 1, 2, 3, 4] rfl ?_
      exact sX12_cut_b179 hK7 _ _ _ _ _ _
    · refine hj_aload_n 0 dX12_cut_153 rfl ?_
      refine hj_getR flX12_34 dX12_cut_154 (fun t23 _ => ?_)
      refine hj_iload 5 dX12_cut_157 rfl ?_
      refine hj_lald dX12_cut_159 (fun t24 _ => ?_)
      refine hj_lload 3 dX12_cut_160 rfl ?_
      refine hj_lcmp dX12_cut_162 ?_
      refine hj_if_ne 173 dX12_cut_163 (by decide) (fun _ => ?_) (fun _ => ?_)
      · refine hj_loc (lv' := [(0, .ref x0), (1, .int x1), (3, .int x3), (4, .long x4), (6, .int x6), (7, .int x7)]) [0, 1, 2, 3, 4, 5] rfl ?_
        exact sX12_cut_b173 hK7 ih _ _ _ _ _ _ _
      · refine hj_bipush (20 : Int32) dX12_cut_166 (by decide) ?_
        refine hj_iload 5 dX12_cut_168 rfl ?_
        refine hj_iadd dX12_cut_170 ?_
        refine hj_ltI (fun v25 _ => ?_)
        refine hj_istore (lv' := [(0, .ref x0), (1, .int x1), (3, .int x3), (4, .long x4), (6, .int v25), (7, .int x7)]) dX12_cut_171 (by decide) [1, 2, 3, 4, 0, 5] rfl ?_
        refine hj_loc (lv' := [(0, .ref x0), (1, .int x1), (3, .int x3), (4, .long x4), (6, .int v25), (7, .int x7)]) [0, 1, 2, 3, 4, 5] rfl ?_
        exact sX12_cut_b173 hK7 ih _ _ _ _ _ _ _
def fX12_cut_b135 (K7 : Nat → Int32 → Sto → Option (Unit × Sto)) (x0 : Nat) (x1 : Int32) (x3 : Int32) (x4 : Int64) (y0 : Int32) (σ : Sto) : Option (Unit × Sto) := (if (7 : Int32) < x3 then (fX12_cut_b179 K7 x0 x1 x3 x4 y0 σ) else (fX12_cut_b146 K7 FU x0 x1 x3 x4 y0 ((0 : Int32)) σ))
set_option maxHeartbeats 2000000 in
theorem sX12_cut_b135 {G : GP} {n0 : Nat} {K7 : Nat → Int32 → Sto → Option (Unit × Sto)} (hK7 : ∀ (x0 : Nat) (x1 : Int32) (σ : Sto), Sim G mX12_cut 3 0 0 n0 jV 0 0 7 [(0, .ref x0), (1, .int x1)] [] σ (K7 x0 x1 σ)) : ∀ (x0 : Nat) (x1 : Int32) (x3 : Int32) (x4 : Int64) (y0 : Int32) (σ : Sto), Sim G mX12_cut 3 0 0 n0 jV 0 0 135 [(0, .ref x0), (1, .int x1), (3, .int x3), (4, .long x4)] [.int y0] σ (fX12_cut_b135 K7 x0 x1 x3 x4 y0 σ) := by
  intro x0 x1 x3 x4 y0 σ
  unfold fX12_cut_b135
  refine hj_istore (lv' := [(0, .ref x0), (1, .int x1), (3, .int x3), (4, .long x4), (6, .int y0)]) dX12_cut_135 (by decide) [1, 2, 3, 4, 0] rfl ?_
  refine hj_iload_n 2 dX12_cut_137 rfl ?_
  refine hj_bipush (7 : Int32) dX12_cut_138 (by decide) ?_
  refine hj_icmp_gt 179 dX12_cut_140 (by decide) (fun _ => ?_) (fun _ => ?_)
  · refine hj_loc (lv' := [(0, .ref x0), (1, .int x1), (3, .int x3), (4, .long x4), (6, .int y0)]) [0, 1, 2, 3, 4] rfl ?_
    exact sX12_cut_b179 hK7 _ _ _ _ _ _
  · refine hj_iconst (0 : Int32) dX12_cut_143 (by decide) ?_
    refine hj_istore (lv' := [(0, .ref x0), (1, .int x1), (3, .int x3), (4, .long x4), (6, .int y0), (7, .int (0 : Int32))]) dX12_cut_144 (by decide) [1, 2, 3, 4, 5, 0] rfl ?_
    refine hj_loc (lv' := [(0, .ref x0), (1, .int x1), (3, .int x3), (4, .long x4), (6, .int y0), (7, .int (0 : Int32))]) [0, 1, 2, 3, 4, 5] rfl ?_
    exact sX12_cut_b146 hK7 _ _ _ _ _ _ _ _
def fX12_cut_b124 (K7 : Nat → Int32 → Sto → Option (Unit × Sto)) (x0 : Nat) (x1 : Int32) (x3 : Int32) (x4 : Int64) (σ : Sto) : Option (Unit × Sto) := (if x3 ≤ (8 : Int32) then (fX12_cut_b135 K7 x0 x1 x3 x4 ((1 : Int32)) σ) else (fX12_cut_b135 K7 x0 x1 x3 x4 ((3 : Int32)) σ))
set_option maxHeartbeats 2000000 in
theorem sX12_cut_b124 {G : GP} {n0 : Nat} {K7 : Nat → Int32 → Sto → Option (Unit × Sto)} (hK7 : ∀ (x0 : Nat) (x1 : Int32) (σ : Sto), Sim G mX12_cut 3 0 0 n0 jV 0 0 7 [(0, .ref x0), (1, .int x1)] [] σ (K7 x0 x1 σ)) : ∀ (x0 : Nat) (x1 : Int32) (x3 : Int32) (x4 : Int64) (σ : Sto), Sim G mX12_cut 3 0 0 n0 jV 0 0 124 [(0, .ref x0), (1, .int x1), (3, .int x3), (4, .long x4)] [] σ (fX12_cut_b124 K7 x0 x1 x3 x4 σ) := by
  intro x0 x1 x3 x4 σ
  unfold fX12_cut_b124
  refine hj_iload_n 2 dX12_cut_124 rfl ?_
  refine hj_bipush (8 : Int32) dX12_cut_125 (by decide) ?_
  refine hj_icmp_le 134 dX12_cut_127 (by decide) (fun _ => ?_) (fun _ => ?_)
  · refine hj_iconst (1 : Int32) dX12_cut_134 (by decide) ?_
    refine hj_loc (lv' := [(0, .ref x0), (1, .int x1), (3, .int x3), (4, .long x4)]) [0, 1, 2, 3] rfl ?_
    exact sX12_cut_b135 hK7 _ _ _ _ _ _
  · refine hj_iconst (3 : Int32) dX12_cut_130 (by decide) ?_
    refine hj_goto 135 dX12_cut_131 (by decide) ?_
    refine hj_loc (lv' := [(0, .ref x0), (1, .int x1), (3, .int x3), (4, .long x4)]) [0, 1, 2, 3] rfl ?_
    exact sX12_cut_b135 hK7 _ _ _ _ _ _
def fX12_cut_b118 (K7 : Nat → Int32 → Sto → Option (Unit × Sto)) (K85 : Nat → Int32 → Int32 → Int64 → Sto → Option (Unit × Sto)) (x0 : Nat) (x1 : Int32) (x3 : Int32) (x4 : Int64) (σ : Sto) : Option (Unit × Sto) := (K85 x0 x1 (x3 + (1 : Int32)) x4 σ)
set_option maxHeartbeats 2000000 in
theorem sX12_cut_b118 {G : GP} {n0 : Nat} {K7 : Nat → Int32 → Sto → Option (Unit × Sto)} (hK7 : ∀ (x0 : Nat) (x1 : Int32) (σ : Sto), Sim G mX12_cut 3 0 0 n0 jV 0 0 7 [(0, .ref x0), (1, .int x1)] [] σ (K7 x0 x1 σ)) {K85 : Nat → Int32 → Int32 → Int64 → Sto → Option (Unit × Sto)} (hK85 : ∀ (x0 : Nat) (x1 : Int32) (x3 : Int32) (x4 : Int64) (σ : Sto), Sim G mX12_cut 3 0 0 n0 jV 0 0 85 [(0, .ref x0), (1, .int x1), (3, .int x3), (4, .long x4)] [] σ (K85 x0 x1 x3 x4 σ)) : ∀ (x0 : Nat) (x1 : Int32) (x3 : Int32) (x4 : Int64) (σ : Sto), Sim G mX12_cut 3 0 0 n0 jV 0 0 118 [(0, .ref x0), (1, .int x1), (3, .int x3), (4, .long x4)] [] σ (fX12_cut_b118 K7 K85 x0 x1 x3 x4 σ) := by
  intro x0 x1 x3 x4 σ
  unfold fX12_cut_b118
  refine hj_iinc (lv' := [(0, .ref x0), (1, .int x1), (3, .int (x3 + (1 : Int32))), (4, .long x4)]) 2 (1 : Int32) dX12_cut_118 rfl (by decide) (by decide) [1, 2, 0, 3] rfl ?_
  refine hj_goto 85 dX12_cut_121 (by decide) ?_
  refine hj_loc (lv' := [(0, .ref x0), (1, .int x1), (3, .int (x3 + (1 : Int32))), (4, .long x4)]) [0, 1, 2, 3] rfl ?_
  exact hK85 _ _ _ _ _
def fX12_cut_b85 (K7 : Nat → Int32 → Sto → Option (Unit × Sto)) : Nat → Nat → Int32 → Int32 → Int64 → Sto → Option (Unit × Sto)
  | 0, _, _, _, _, _ => none
  | n + 1, x0, x1, x3, x4, σ => (cb (fX12_byteAt x0 ((x1 + x3)) σ) fun r29 σ28 => (cb (fX12_isLetter r29 σ28) fun r31 σ30 => (if r31 = 0 then (fX12_cut_b124 K7 x0 x1 x3 x4 σ30) else (if (8 : Int32) ≤ x3 then (fX12_cut_b118 K7 (fX12_cut_b85 K7 n) x0 x1 x3 x4 σ30) else (cb (fX12_byteAt x0 ((x1 + x3)) σ30) fun r33 σ32 => (cb (fX12_appends x4 r33 σ32) fun r35 σ34 => (fX12_cut_b118 K7 (fX12_cut_b85 K7 n) x0 x1 x3 r35 σ34)))))))
set_option maxHeartbeats 2000000 in
theorem sX12_cut_b85 {G : GP} {n0 : Nat} {K7 : Nat → Int32 → Sto → Option (Unit × Sto)} (hK7 : ∀ (x0 : Nat) (x1 : Int32) (σ : Sto), Sim G mX12_cut 3 0 0 n0 jV 0 0 7 [(0, .ref x0), (1, .int x1)] [] σ (K7 x0 x1 σ)) : ∀ (n : Nat) (x0 : Nat) (x1 : Int32) (x3 : Int32) (x4 : Int64) (σ : Sto), Sim G mX12_cut 3 0 0 n0 jV 0 0 85 [(0, .ref x0), (1, .int x1), (3, .int x3), (4, .long x4)] [] σ (fX12_cut_b85 K7 n x0 x1 x3 x4 σ) := by
  intro n
  induction n with
  | zero => intros; rw [fX12_cut_b85]; exact hj_none
  | succ n ih =>
    intro x0 x1 x3 x4 σ
    rw [fX12_cut_b85]
    refine hj_aload_n 0 dX12_cut_85 rfl ?_
    refine hj_iload_n 1 dX12_cut_86 rfl ?_
    refine hj_iload_n 2 dX12_cut_87 rfl ?_
    refine hj_iadd dX12_cut_88 ?_
    refine hj_callV (ci := 12) (M' := mX12_byteAt) (h' := 1) (As := [.int ((x1 + x3))]) mfX12_byteAt mvX12_byteAt ⟨_, _, rfl⟩ mlX12_172 dX12_cut_89 (kX12_byteAt G _ _ _) (fun _ hr => cX12_byteAtk hr) ⟨Nat.le_of_ble_eq_true rfl, Nat.le_of_ble_eq_true rfl⟩ ⟨Nat.le_refl _, Nat.le_refl _⟩ rfl (Nat.le_of_ble_eq_true rfl) (fun r29 σ28 _ => ?_)
    refine hj_callS (M' := mX12_isLetter) (h' := 1) (As := [.int r29]) mfX12_isLetter msX12_isLetter mlX12_180 dX12_cut_92 (kX12_isLetter G _ _) ⟨Nat.le_of_ble_eq_true rfl, Nat.le_of_ble_eq_true rfl⟩ ⟨Nat.le_refl _, Nat.le_refl _⟩ rfl (Nat.le_of_ble_eq_true rfl) (fun r31 σ30 _ => ?_)
    refine hj_if_eq 124 dX12_cut_95 (by decide) (fun _ => ?_) (fun _ => ?_)
    · refine hj_loc (lv' := [(0, .ref x0), (1, .int x1), (3, .int x3), (4, .long x4)]) [0, 1, 2, 3] rfl ?_
      exact sX12_cut_b124 hK7 _ _ _ _ _
    · refine hj_iload_n 2 dX12_cut_98 rfl ?_
      refine hj_bipush (8 : Int32) dX12_cut_99 (by decide) ?_
      refine hj_icmp_ge 118 dX12_cut_101 (by decide) (fun _ => ?_) (fun _ => ?_)
      · refine hj_loc (lv' := [(0, .ref x0), (1, .int x1), (3, .int x3), (4, .long x4)]) [0, 1, 2, 3] rfl ?_
        exact sX12_cut_b118 hK7 ih _ _ _ _ _
      · refine hj_lload 3 dX12_cut_104 rfl ?_
        refine hj_aload_n 0 dX12_cut_106 rfl ?_
        refine hj_iload_n 1 dX12_cut_107 rfl ?_
        refine hj_iload_n 2 dX12_cut_108 rfl ?_
        refine hj_iadd dX12_cut_109 ?_
        refine hj_callV (ci := 12) (M' := mX12_byteAt) (h' := 1) (As := [.int ((x1 + x3))]) mfX12_byteAt mvX12_byteAt ⟨_, _, rfl⟩ mlX12_172 dX12_cut_110 (kX12_byteAt G _ _ _) (fun _ hr => cX12_byteAtk hr) ⟨Nat.le_of_ble_eq_true rfl, Nat.le_of_ble_eq_true rfl⟩ ⟨Nat.le_refl _, Nat.le_refl _⟩ rfl (Nat.le_of_ble_eq_true rfl) (fun r33 σ32 _ => ?_)
        refine hj_callS (M' := mX12_appends) (h' := 1) (As := [.long x4, .int r33]) mfX12_appends msX12_appends mlX12_165 dX12_cut_113 (kX12_appends G _ _ _) ⟨Nat.le_of_ble_eq_true rfl, Nat.le_of_ble_eq_true rfl⟩ ⟨Nat.le_refl _, Nat.le_refl _⟩ rfl (Nat.le_of_ble_eq_true rfl) (fun r35 σ34 _ => ?_)
        refine hj_lstore (lv' := [(0, .ref x0), (1, .int x1), (3, .int x3), (4, .long r35)]) dX12_cut_116 (by decide) [1, 2, 3, 0] rfl ?_
        refine hj_loc (lv' := [(0, .ref x0), (1, .int x1), (3, .int x3), (4, .long r35)]) [0, 1, 2, 3] rfl ?_
        exact sX12_cut_b118 hK7 ih _ _ _ _ _
def fX12_cut_b31 (x0 : Nat) (σ : Sto) : Option (Unit × Sto) := ((gI σ 12 x0 4).bind fun t36 => (cb (fX12_token x0 ((0 : Int32)) t36 ((0 : Int32)) ((0 : Int64)) σ) fun _ σ37 => (some ((), σ37))))
set_option maxHeartbeats 2000000 in
theorem sX12_cut_b31 {G : GP} {n0 : Nat} : ∀ (x0 : Nat) (σ : Sto), Sim G mX12_cut 3 0 0 n0 jV 0 0 31 [(0, .ref x0)] [] σ (fX12_cut_b31 x0 σ) := by
  intro x0 σ
  unfold fX12_cut_b31
  refine hj_aload_n 0 dX12_cut_31 rfl ?_
  refine hj_iconst (0 : Int32) dX12_cut_32 (by decide) ?_
  refine hj_aload_n 0 dX12_cut_33 rfl ?_
  refine hj_getI flX12_160 dX12_cut_34 (fun t36 _ => ?_)
  refine hj_iconst (0 : Int32) dX12_cut_37 (by decide) ?_
  refine hj_lconst (0 : Int64) dX12_cut_38 (by decide) ?_
  refine hj_callV (ci := 12) (M' := mX12_token) (h' := 1) (As := [.int ((0 : Int32)), .int t36, .int ((0 : Int32)), .long ((0 : Int64))]) mfX12_token mvX12_token ⟨_, _, rfl⟩ mlX12_176 dX12_cut_39 (kX12_token G _ _ _ _ _ _) (fun _ hr => cX12_tokenk hr) ⟨Nat.le_of_ble_eq_true rfl, Nat.le_of_ble_eq_true rfl⟩ ⟨Nat.le_refl _, Nat.le_refl _⟩ rfl (Nat.le_of_ble_eq_true rfl) (fun _ σ37 _ => ?_)
  exact hj_vret dX12_cut_42 rfl rfl (Nat.le_refl _)
def fX12_cut_b7 : Nat → Nat → Int32 → Sto → Option (Unit × Sto)
  | 0, _, _, _ => none
  | n + 1, x0, x1, σ => ((gI σ 12 x0 10).bind fun t3 => (if (400 : Int32) < t3 then (some ((), σ)) else (cb (fX12_byteAt x0 x1 σ) fun r5 σ4 => ((gI σ4 12 x0 4).bind fun t6 => (if x1 < t6 then (if r5 = (9 : Int32) then (fX12_cut_b67 (fX12_cut_b7 n) x0 x1 σ4) else (if r5 = (10 : Int32) then (fX12_cut_b67 (fX12_cut_b7 n) x0 x1 σ4) else (if r5 = (13 : Int32) then (fX12_cut_b67 (fX12_cut_b7 n) x0 x1 σ4) else (if r5 = (32 : Int32) then (fX12_cut_b67 (fX12_cut_b7 n) x0 x1 σ4) else (cb (fX12_isLetter r5 σ4) fun r8 σ7 => (if r8 = 0 then (cb (fX12_isDigit r5 σ7) fun r10 σ9 => (if r10 = 0 then (cb (fX12_byteAt x0 ((x1 + ((1 : Int32)))) σ9) fun r12 σ11 => (cb (fX12_sign x0 x1 r5 r12 σ11) fun r14 σ13 => (lt ((x1 + r14)) fun v15 => (fX12_cut_b291 (fX12_cut_b7 n) x0 v15 σ13)))) else (fX12_cut_b208 (fX12_cut_b7 n) FU x0 x1 ((0 : Int32)) ((0 : Int32)) σ9))) else (fX12_cut_b85 (fX12_cut_b7 n) FU x0 x1 ((0 : Int32)) ((0 : Int64)) σ7))))))) else (fX12_cut_b31 x0 σ4))))))
set_option maxHeartbeats 2000000 in
theorem sX12_cut_b7 {G : GP} {n0 : Nat} : ∀ (n : Nat) (x0 : Nat) (x1 : Int32) (σ : Sto), Sim G mX12_cut 3 0 0 n0 jV 0 0 7 [(0, .ref x0), (1, .int x1)] [] σ (fX12_cut_b7 n x0 x1 σ) := by
  intro n
  induction n with
  | zero => intros; rw [fX12_cut_b7]; exact hj_none
  | succ n ih =>
    intro x0 x1 σ
    rw [fX12_cut_b7]
    refine hj_aload_n 0 dX12_cut_7 rfl ?_
    refine hj_getI flX12_169 dX12_cut_8 (fun t3 _ => ?_)
    refine hj_sipush (400 : Int32) dX12_cut_11 (by decide) ?_
    refine hj_icmp_gt 294 dX12_cut_14 (by decide) (fun _ => ?_) (fun _ => ?_)
    · exact hj_vret dX12_cut_294 rfl rfl (Nat.le_refl _)
    · refine hj_aload_n 0 dX12_cut_17 rfl ?_
      refine hj_iload_n 1 dX12_cut_18 rfl ?_
      refine hj_callV (ci := 12) (M' := mX12_byteAt) (h' := 1) (As := [.int x1]) mfX12_byteAt mvX12_byteAt ⟨_, _, rfl⟩ mlX12_172 dX12_cut_19 (kX12_byteAt G _ _ _) (fun _ hr => cX12_byteAtk hr) ⟨Nat.le_of_ble_eq_true rfl, Nat.le_of_ble_eq_true rfl⟩ ⟨Nat.le_refl _, Nat.le_refl _⟩ rfl (Nat.le_of_ble_eq_true rfl) (fun r5 σ4 _ => ?_)
      refine hj_istore_n (lv' := [(0, .ref x0), (1, .int x1), (2, .int r5)]) dX12_cut_22 (by decide) [1, 2, 0] rfl ?_
      refine hj_iload_n 1 dX12_cut_23 rfl ?_
      refine hj_aload_n 0 dX12_cut_24 rfl ?_
      refine hj_getI flX12_160 dX12_cut_25 (fun t6 _ => ?_)
      refine hj_icmp_lt 43 dX12_cut_28 (by decide) (fun _ => ?_) (fun _ => ?_)
      · refine hj_iload_n 2 dX12_cut_43 rfl ?_
        refine hj_bipush (9 : Int32) dX12_cut_44 (by decide) ?_
        refine hj_icmp_eq 67 dX12_cut_46 (by decide) (fun _ => ?_) (fun _ => ?_)
        · refine hj_loc (lv' := [(0, .ref x0), (1, .int x1)]) [0, 1] rfl ?_
          exact sX12_cut_b67 ih _ _ _
        · refine hj_iload_n 2 dX12_cut_49 rfl ?_
          refine hj_bipush (10 : Int32) dX12_cut_50 (by decide) ?_
          refine hj_icmp_eq 67 dX12_cut_52 (by decide) (fun _ => ?_) (fun _ => ?_)
          · refine hj_loc (lv' := [(0, .ref x0), (1, .int x1)]) [0, 1] rfl ?_
            exact sX12_cut_b67 ih _ _ _
          · refine hj_iload_n 2 dX12_cut_55 rfl ?_
            refine hj_bipush (13 : Int32) dX12_cut_56 (by decide) ?_
            refine hj_icmp_eq 67 dX12_cut_58 (by decide) (fun _ => ?_) (fun _ => ?_)
            · refine hj_loc (lv' := [(0, .ref x0), (1, .int x1)]) [0, 1] rfl ?_
              exact sX12_cut_b67 ih _ _ _
            · refine hj_iload_n 2 dX12_cut_61 rfl ?_
              refine hj_bipush (32 : Int32) dX12_cut_62 (by decide) ?_
              refine hj_icmp_ne 73 dX12_cut_64 (by decide) (fun _ => ?_) (fun _ => ?_)
              · refine hj_iload_n 2 dX12_cut_73 rfl ?_
                refine hj_callS (M' := mX12_isLetter) (h' := 1) (As := [.int r5]) mfX12_isLetter msX12_isLetter mlX12_180 dX12_cut_74 (kX12_isLetter G _ _) ⟨Nat.le_of_ble_eq_true rfl, Nat.le_of_ble_eq_true rfl⟩ ⟨Nat.le_refl _, Nat.le_refl _⟩ rfl (Nat.le_of_ble_eq_true rfl) (fun r8 σ7 _ => ?_)
                refine hj_if_eq 196 dX12_cut_77 (by decide) (fun _ => ?_) (fun _ => ?_)
                · refine hj_iload_n 2 dX12_cut_196 rfl ?_
                  refine hj_callS (M' := mX12_isDigit) (h' := 1) (As := [.int r5]) mfX12_isDigit msX12_isDigit mlX12_184 dX12_cut_197 (kX12_isDigit G _ _) ⟨Nat.le_of_ble_eq_true rfl, Nat.le_of_ble_eq_true rfl⟩ ⟨Nat.le_refl _, Nat.le_refl _⟩ rfl (Nat.le_of_ble_eq_true rfl) (fun r10 σ9 _ => ?_)
                  refine hj_if_eq 275 dX12_cut_200 (by decide) (fun _ => ?_) (fun _ => ?_)
                  · refine hj_iload_n 1 dX12_cut_275 rfl ?_
                    refine hj_aload_n 0 dX12_cut_276 rfl ?_
                    refine hj_iload_n 1 dX12_cut_277 rfl ?_
                    refine hj_iload_n 2 dX12_cut_278 rfl ?_
                    refine hj_aload_n 0 dX12_cut_279 rfl ?_
                    refine hj_iload_n 1 dX12_cut_280 rfl ?_
                    refine hj_iconst (1 : Int32) dX12_cut_281 (by decide) ?_
                    refine hj_iadd dX12_cut_282 ?_
                    refine hj_callV (ci := 12) (M' := mX12_byteAt) (h' := 1) (As := [.int ((x1 + ((1 : Int32))))]) mfX12_byteAt mvX12_byteAt ⟨_, _, rfl⟩ mlX12_172 dX12_cut_283 (kX12_byteAt G _ _ _) (fun _ hr => cX12_byteAtk hr) ⟨Nat.le_of_ble_eq_true rfl, Nat.le_of_ble_eq_true rfl⟩ ⟨Nat.le_refl _, Nat.le_refl _⟩ rfl (Nat.le_of_ble_eq_true rfl) (fun r12 σ11 _ => ?_)
                    refine hj_callV (ci := 12) (M' := mX12_sign) (h' := 2) (As := [.int x1, .int r5, .int r12]) mfX12_sign mvX12_sign ⟨_, _, rfl⟩ mlX12_187 dX12_cut_286 (kX12_sign G _ _ _ _ _) (fun _ hr => cX12_signk hr) ⟨Nat.le_of_ble_eq_true rfl, Nat.le_of_ble_eq_true rfl⟩ ⟨Nat.le_refl _, Nat.le_refl _⟩ rfl (Nat.le_of_ble_eq_true rfl) (fun r14 σ13 _ => ?_)
                    refine hj_iadd dX12_cut_289 ?_
                    refine hj_ltI (fun v15 _ => ?_)
                    refine hj_istore_n (lv' := [(0, .ref x0), (1, .int v15), (2, .int r5)]) dX12_cut_290 (by decide) [1, 0, 2] rfl ?_
                    refine hj_loc (lv' := [(0, .ref x0), (1, .int v15)]) [0, 1] rfl ?_
                    exact sX12_cut_b291 ih _ _ _
                  · refine hj_iconst (0 : Int32) dX12_cut_203 (by decide) ?_
                    refine hj_istore_n (lv' := [(0, .ref x0), (1, .int x1), (2, .int r5), (3, .int (0 : Int32))]) dX12_cut_204 (by decide) [1, 2, 3, 0] rfl ?_
                    refine hj_iconst (0 : Int32) dX12_cut_205 (by decide) ?_
                    refine hj_istore (lv' := [(0, .ref x0), (1, .int x1), (2, .int r5), (3, .int (0 : Int32)), (4, .int (0 : Int32))]) dX12_cut_206 (by decide) [1, 2, 3, 4, 0] rfl ?_
                    refine hj_loc (lv' := [(0, .ref x0), (1, .int x1), (3, .int (0 : Int32)), (4, .int (0 : Int32))]) [0, 1, 3, 4] rfl ?_
                    exact sX12_cut_b208 ih _ _ _ _ _ _
                · refine hj_iconst (0 : Int32) dX12_cut_80 (by decide) ?_
                  refine hj_istore_n (lv' := [(0, .ref x0), (1, .int x1), (2, .int r5), (3, .int (0 : Int32))]) dX12_cut_81 (by decide) [1, 2, 3, 0] rfl ?_
                  refine hj_lconst (0 : Int64) dX12_cut_82 (by decide) ?_
                  refine hj_lstore (lv' := [(0, .ref x0), (1, .int x1), (2, .int r5), (3, .int (0 : Int32)), (4, .long (0 : Int64))]) dX12_cut_83 (by decide) [1, 2, 3, 4, 0] rfl ?_
                  refine hj_loc (lv' := [(0, .ref x0), (1, .int x1), (3, .int (0 : Int32)), (4, .long (0 : Int64))]) [0, 1, 3, 4] rfl ?_
                  exact sX12_cut_b85 ih _ _ _ _ _ _
              · refine hj_loc (lv' := [(0, .ref x0), (1, .int x1)]) [0, 1] rfl ?_
                exact sX12_cut_b67 ih _ _ _
      · refine hj_loc (lv' := [(0, .ref x0)]) [0] rfl ?_
        exact sX12_cut_b31 _ _
def fX12_cut (a0 : Nat) (σ : Sto) : Option (Unit × Sto) := ck σ 12 a0 ((pV σ 12 a0 10 (.int ((0 : Int32)))).bind fun σ38 => (fX12_cut_b7 FU a0 ((0 : Int32)) σ38))
set_option maxHeartbeats 2000000 in
theorem kX12_cut (G : GP) (a0 : Nat) (σ : Sto) : Me G mX12_cut 3 0 0 jV [.ref a0] σ (fX12_cut a0 σ) := by
  refine hs_me (lv := [(0, .ref a0)]) (plainFor_of_name (by decide +kernel)) (Nat.le_of_ble_eq_true rfl) rfl ?_
  unfold fX12_cut
  refine hj_ck ?_
  refine hj_aload_n 0 dX12_cut_0 rfl ?_
  refine hj_iconst (0 : Int32) dX12_cut_1 (by decide) ?_
  refine hj_put (fpX12_169 _) (fun _ => rfl) (fun _ => rfl) dX12_cut_2 (fun σ38 _ => ?_)
  refine hj_iconst (0 : Int32) dX12_cut_5 (by decide) ?_
  refine hj_istore_n (lv' := [(0, .ref a0), (1, .int (0 : Int32))]) dX12_cut_6 (by decide) [1, 0] rfl ?_
  refine hj_loc (lv' := [(0, .ref a0), (1, .int (0 : Int32))]) [0, 1] rfl ?_
  exact sX12_cut_b7 _ _ _ _
theorem cX12_cutk {a0 : Nat} {σ : Sto} {r : Unit × Sto} (h : fX12_cut a0 σ = some r) : ∃ fs, hs_o σ 12 a0 = some fs := (ck_of h).1
def fX12_is (a0 : Nat) (a1 : Int32) (σ : Sto) : Option (Int32 × Sto) := ck σ 12 a0 ((gI σ 12 a0 13).bind fun t1 => (if t1 = 0 then ((gR σ 12 a0 5).bind fun t2 => ((gI σ 12 a0 11).bind fun t3 => ((aI σ 2 t2 t3).bind fun t4 => (if t4 = a1 then (some ((1 : Int32), σ)) else (some ((0 : Int32), σ)))))) else (some ((0 : Int32), σ))))
set_option maxHeartbeats 2000000 in
theorem kX12_is (G : GP) (a0 : Nat) (a1 : Int32) (σ : Sto) : Me G mX12_is 1 0 0 jI [.ref a0, .int a1] σ (fX12_is a0 a1 σ) := by
  refine hs_me (lv := [(0, .ref a0), (1, .int a1)]) (plainFor_of_name (by decide +kernel)) (Nat.le_of_ble_eq_true rfl) rfl ?_
  unfold fX12_is
  refine hj_ck ?_
  refine hj_aload_n 0 dX12_is_0 rfl ?_
  refine hj_getI flX12_191 dX12_is_1 (fun t1 _ => ?_)
  refine hj_if_ne 24 dX12_is_4 (by decide) (fun _ => ?_) (fun _ => ?_)
  · refine hj_iconst (0 : Int32) dX12_is_24 (by decide) ?_
    exact hj_zret dX12_is_25 rfl (by decide) rfl (Nat.le_refl _)
  · refine hj_aload_n 0 dX12_is_7 rfl ?_
    refine hj_getR flX12_20 dX12_is_8 (fun t2 _ => ?_)
    refine hj_aload_n 0 dX12_is_11 rfl ?_
    refine hj_getI flX12_194 dX12_is_12 (fun t3 _ => ?_)
    refine hj_iald dX12_is_15 (fun t4 _ => ?_)
    refine hj_iload_n 1 dX12_is_16 rfl ?_
    refine hj_icmp_ne 24 dX12_is_17 (by decide) (fun _ => ?_) (fun _ => ?_)
    · refine hj_iconst (0 : Int32) dX12_is_24 (by decide) ?_
      exact hj_zret dX12_is_25 rfl (by decide) rfl (Nat.le_refl _)
    · refine hj_iconst (1 : Int32) dX12_is_20 (by decide) ?_
      refine hj_goto 25 dX12_is_21 (by decide) ?_
      exact hj_zret dX12_is_25 rfl (by decide) rfl (Nat.le_refl _)
theorem cX12_isk {a0 : Nat} {a1 : Int32} {σ : Sto} {r : Int32 × Sto} (h : fX12_is a0 a1 σ = some r) : ∃ fs, hs_o σ 12 a0 = some fs := (ck_of h).1
def fX12_fail (a0 : Nat) (a1 : Int32) (σ : Sto) : Option (Unit × Sto) := ck σ 12 a0 ((gI σ 12 a0 13).bind fun t1 => (if t1 ≤ 0 then ((pV σ 12 a0 13 (.int a1)).bind fun σ2 => ((gR σ2 12 a0 6).bind fun t3 => ((gI σ2 12 a0 11).bind fun t4 => ((aI σ2 2 t3 t4).bind fun t5 => ((pV σ2 12 a0 14 (.int t5)).bind fun σ6 => (some ((), σ6))))))) else (some ((), σ))))
set_option maxHeartbeats 2000000 in
theorem kX12_fail (G : GP) (a0 : Nat) (a1 : Int32) (σ : Sto) : Me G mX12_fail 1 0 0 jV [.ref a0, .int a1] σ (fX12_fail a0 a1 σ) := by
  refine hs_me (lv := [(0, .ref a0), (1, .int a1)]) (plainFor_of_name (by decide +kernel)) (Nat.le_of_ble_eq_true rfl) rfl ?_
  unfold fX12_fail
  refine hj_ck ?_
  refine hj_aload_n 0 dX12_fail_0 rfl ?_
  refine hj_getI flX12_191 dX12_fail_1 (fun t1 _ => ?_)
  refine hj_if_le 8 dX12_fail_4 (by decide) (fun _ => ?_) (fun _ => ?_)
  · refine hj_aload_n 0 dX12_fail_8 rfl ?_
    refine hj_iload_n 1 dX12_fail_9 rfl ?_
    refine hj_put (fpX12_191 _) (fun _ => rfl) (fun _ => rfl) dX12_fail_10 (fun σ2 _ => ?_)
    refine hj_aload_n 0 dX12_fail_13 rfl ?_
    refine hj_aload_n 0 dX12_fail_14 rfl ?_
    refine hj_getR flX12_24 dX12_fail_15 (fun t3 _ => ?_)
    refine hj_aload_n 0 dX12_fail_18 rfl ?_
    refine hj_getI flX12_194 dX12_fail_19 (fun t4 _ => ?_)
    refine hj_iald dX12_fail_22 (fun t5 _ => ?_)
    refine hj_put (fpX12_197 _) (fun _ => rfl) (fun _ => rfl) dX12_fail_23 (fun σ6 _ => ?_)
    exact hj_vret dX12_fail_26 rfl rfl (Nat.le_refl _)
  · exact hj_vret dX12_fail_7 rfl rfl (Nat.le_refl _)
theorem cX12_failk {a0 : Nat} {a1 : Int32} {σ : Sto} {r : Unit × Sto} (h : fX12_fail a0 a1 σ = some r) : ∃ fs, hs_o σ 12 a0 = some fs := (ck_of h).1
def fX12_wrong (a0 : Nat) (a1 : Int32) (a2 : Int32) (σ : Sto) : Option (Unit × Sto) := ck σ 12 a0 ((gR σ 12 a0 6).bind fun t1 => ((aI σ 2 t1 a2).bind fun t2 => ((gI σ 12 a0 13).bind fun t3 => (if 0 < t3 then (some ((), σ)) else ((gI σ 12 a0 15).bind fun t4 => (if t4 = 0 then ((pV σ 12 a0 15 (.int a1)).bind fun σ5 => ((pV σ5 12 a0 16 (.int t2)).bind fun σ6 => (some ((), σ6)))) else ((gI σ 12 a0 16).bind fun t7 => (if t7 < t2 then (some ((), σ)) else ((gI σ 12 a0 16).bind fun t8 => (if t2 = t8 then ((gI σ 12 a0 15).bind fun t11 => (if a1 < t11 then ((pV σ 12 a0 15 (.int a1)).bind fun σ12 => ((pV σ12 12 a0 16 (.int t2)).bind fun σ13 => (some ((), σ13)))) else (some ((), σ)))) else ((pV σ 12 a0 15 (.int a1)).bind fun σ9 => ((pV σ9 12 a0 16 (.int t2)).bind fun σ10 => (some ((), σ10))))))))))))))
set_option maxHeartbeats 2000000 in
theorem kX12_wrong (G : GP) (a0 : Nat) (a1 : Int32) (a2 : Int32) (σ : Sto) : Me G mX12_wrong 1 0 0 jV [.ref a0, .int a1, .int a2] σ (fX12_wrong a0 a1 a2 σ) := by
  refine hs_me (lv := [(0, .ref a0), (1, .int a1), (2, .int a2)]) (plainFor_of_name (by decide +kernel)) (Nat.le_of_ble_eq_true rfl) rfl ?_
  unfold fX12_wrong
  refine hj_ck ?_
  refine hj_aload_n 0 dX12_wrong_0 rfl ?_
  refine hj_getR flX12_24 dX12_wrong_1 (fun t1 _ => ?_)
  refine hj_iload_n 2 dX12_wrong_4 rfl ?_
  refine hj_iald dX12_wrong_5 (fun t2 _ => ?_)
  refine hj_istore_n (lv' := [(0, .ref a0), (1, .int a1), (2, .int a2), (3, .int t2)]) dX12_wrong_6 (by decide) [1, 2, 3, 0] rfl ?_
  refine hj_aload_n 0 dX12_wrong_7 rfl ?_
  refine hj_getI flX12_191 dX12_wrong_8 (fun t3 _ => ?_)
  refine hj_if_gt 45 dX12_wrong_11 (by decide) (fun _ => ?_) (fun _ => ?_)
  · exact hj_vret dX12_wrong_45 rfl rfl (Nat.le_refl _)
  · refine hj_aload_n 0 dX12_wrong_14 rfl ?_
    refine hj_getI flX12_200 dX12_wrong_15 (fun t4 _ => ?_)
    refine hj_if_eq 46 dX12_wrong_18 (by decide) (fun _ => ?_) (fun _ => ?_)
    · refine hj_aload_n 0 dX12_wrong_46 rfl ?_
      refine hj_iload_n 1 dX12_wrong_47 rfl ?_
      refine hj_put (fpX12_200 _) (fun _ => rfl) (fun _ => rfl) dX12_wrong_48 (fun σ5 _ => ?_)
      refine hj_aload_n 0 dX12_wrong_51 rfl ?_
      refine hj_iload_n 3 dX12_wrong_52 rfl ?_
      refine hj_put (fpX12_203 _) (fun _ => rfl) (fun _ => rfl) dX12_wrong_53 (fun σ6 _ => ?_)
      exact hj_vret dX12_wrong_56 rfl rfl (Nat.le_refl _)
    · refine hj_iload_n 3 dX12_wrong_21 rfl ?_
      refine hj_aload_n 0 dX12_wrong_22 rfl ?_
      refine hj_getI flX12_203 dX12_wrong_23 (fun t7 _ => ?_)
      refine hj_icmp_gt 45 dX12_wrong_26 (by decide) (fun _ => ?_) (fun _ => ?_)
      · exact hj_vret dX12_wrong_45 rfl rfl (Nat.le_refl _)
      · refine hj_iload_n 3 dX12_wrong_29 rfl ?_
        refine hj_aload_n 0 dX12_wrong_30 rfl ?_
        refine hj_getI flX12_203 dX12_wrong_31 (fun t8 _ => ?_)
        refine hj_icmp_ne 46 dX12_wrong_34 (by decide) (fun _ => ?_) (fun _ => ?_)
        · refine hj_aload_n 0 dX12_wrong_46 rfl ?_
          refine hj_iload_n 1 dX12_wrong_47 rfl ?_
          refine hj_put (fpX12_200 _) (fun _ => rfl) (fun _ => rfl) dX12_wrong_48 (fun σ9 _ => ?_)
          refine hj_aload_n 0 dX12_wrong_51 rfl ?_
          refine hj_iload_n 3 dX12_wrong_52 rfl ?_
          refine hj_put (fpX12_203 _) (fun _ => rfl) (fun _ => rfl) dX12_wrong_53 (fun σ10 _ => ?_)
          exact hj_vret dX12_wrong_56 rfl rfl (Nat.le_refl _)
        · refine hj_iload_n 1 dX12_wrong_37 rfl ?_
          refine hj_aload_n 0 dX12_wrong_38 rfl ?_
          refine hj_getI flX12_200 dX12_wrong_39 (fun t11 _ => ?_)
          refine hj_icmp_lt 46 dX12_wrong_42 (by decide) (fun _ => ?_) (fun _ => ?_)
          · refine hj_aload_n 0 dX12_wrong_46 rfl ?_
            refine hj_iload_n 1 dX12_wrong_47 rfl ?_
            refine hj_put (fpX12_200 _) (fun _ => rfl) (fun _ => rfl) dX12_wrong_48 (fun σ12 _ => ?_)
            refine hj_aload_n 0 dX12_wrong_51 rfl ?_
            refine hj_iload_n 3 dX12_wrong_52 rfl ?_
            refine hj_put (fpX12_203 _) (fun _ => rfl) (fun _ => rfl) dX12_wrong_53 (fun σ13 _ => ?_)
            exact hj_vret dX12_wrong_56 rfl rfl (Nat.le_refl _)
          · exact hj_vret dX12_wrong_45 rfl rfl (Nat.le_refl _)
theorem cX12_wrongk {a0 : Nat} {a1 : Int32} {a2 : Int32} {σ : Sto} {r : Unit × Sto} (h : fX12_wrong a0 a1 a2 σ = some r) : ∃ fs, hs_o σ 12 a0 = some fs := (ck_of h).1
def fX12_goesOn (a0 : Nat) (σ : Sto) : Option (Unit × Sto) := ck σ 12 a0 ((gI σ 12 a0 11).bind fun t1 => (if t1 = (400 : Int32) then (cb (fX12_fail a0 ((2 : Int32)) σ) fun _ σ4 => (some ((), σ4))) else ((gI σ 12 a0 11).bind fun t2 => ((pV σ 12 a0 11 (.int ((t2 + ((1 : Int32)))))).bind fun σ3 => (some ((), σ3))))))
set_option maxHeartbeats 2000000 in
theorem kX12_goesOn (G : GP) (a0 : Nat) (σ : Sto) : Me G mX12_goesOn 2 0 0 jV [.ref a0] σ (fX12_goesOn a0 σ) := by
  refine hs_me (lv := [(0, .ref a0)]) (plainFor_of_name (by decide +kernel)) (Nat.le_of_ble_eq_true rfl) rfl ?_
  unfold fX12_goesOn
  refine hj_ck ?_
  refine hj_aload_n 0 dX12_goesOn_0 rfl ?_
  refine hj_getI flX12_194 dX12_goesOn_1 (fun t1 _ => ?_)
  refine hj_sipush (400 : Int32) dX12_goesOn_4 (by decide) ?_
  refine hj_icmp_ne 18 dX12_goesOn_7 (by decide) (fun _ => ?_) (fun _ => ?_)
  · refine hj_aload_n 0 dX12_goesOn_18 rfl ?_
    refine hj_dup dX12_goesOn_19 rfl ?_
    refine hj_getI flX12_194 dX12_goesOn_20 (fun t2 _ => ?_)
    refine hj_iconst (1 : Int32) dX12_goesOn_23 (by decide) ?_
    refine hj_iadd dX12_goesOn_24 ?_
    refine hj_put (fpX12_194 _) (fun _ => rfl) (fun _ => rfl) dX12_goesOn_25 (fun σ3 _ => ?_)
    exact hj_vret dX12_goesOn_28 rfl rfl (Nat.le_refl _)
  · refine hj_aload_n 0 dX12_goesOn_10 rfl ?_
    refine hj_iconst (2 : Int32) dX12_goesOn_11 (by decide) ?_
    refine hj_callV (ci := 12) (M' := mX12_fail) (h' := 1) (As := [.int ((2 : Int32))]) mfX12_fail mvX12_fail ⟨_, _, rfl⟩ mlX12_206 dX12_goesOn_12 (kX12_fail G _ _ _) (fun _ hr => cX12_failk hr) ⟨Nat.le_of_ble_eq_true rfl, Nat.le_of_ble_eq_true rfl⟩ ⟨Nat.le_refl _, Nat.le_refl _⟩ rfl (Nat.le_of_ble_eq_true rfl) (fun _ σ4 _ => ?_)
    refine hj_goto 28 dX12_goesOn_15 (by decide) ?_
    exact hj_vret dX12_goesOn_28 rfl rfl (Nat.le_refl _)
theorem cX12_goesOnk {a0 : Nat} {σ : Sto} {r : Unit × Sto} (h : fX12_goesOn a0 σ = some r) : ∃ fs, hs_o σ 12 a0 = some fs := (ck_of h).1
def fX12_must (a0 : Nat) (a1 : Int32) (σ : Sto) : Option (Unit × Sto) := ck σ 12 a0 (cb (fX12_is a0 a1 σ) fun r2 σ1 => (if r2 = 0 then (cb (fX12_fail a0 ((1 : Int32)) σ1) fun _ σ3 => (some ((), σ3))) else (cb (fX12_goesOn a0 σ1) fun _ σ4 => (some ((), σ4)))))
set_option maxHeartbeats 2000000 in
theorem kX12_must (G : GP) (a0 : Nat) (a1 : Int32) (σ : Sto) : Me G mX12_must 3 0 0 jV [.ref a0, .int a1] σ (fX12_must a0 a1 σ) := by
  refine hs_me (lv := [(0, .ref a0), (1, .int a1)]) (plainFor_of_name (by decide +kernel)) (Nat.le_of_ble_eq_true rfl) rfl ?_
  unfold fX12_must
  refine hj_ck ?_
  refine hj_aload_n 0 dX12_must_0 rfl ?_
  refine hj_iload_n 1 dX12_must_1 rfl ?_
  refine hj_callV (ci := 12) (M' := mX12_is) (h' := 1) (As := [.int a1]) mfX12_is mvX12_is ⟨_, _, rfl⟩ mlX12_209 dX12_must_2 (kX12_is G _ _ _) (fun _ hr => cX12_isk hr) ⟨Nat.le_of_ble_eq_true rfl, Nat.le_of_ble_eq_true rfl⟩ ⟨Nat.le_refl _, Nat.le_refl _⟩ rfl (Nat.le_of_ble_eq_true rfl) (fun r2 σ1 _ => ?_)
  refine hj_if_eq 15 dX12_must_5 (by decide) (fun _ => ?_) (fun _ => ?_)
  · refine hj_aload_n 0 dX12_must_15 rfl ?_
    refine hj_iconst (1 : Int32) dX12_must_16 (by decide) ?_
    refine hj_callV (ci := 12) (M' := mX12_fail) (h' := 1) (As := [.int ((1 : Int32))]) mfX12_fail mvX12_fail ⟨_, _, rfl⟩ mlX12_206 dX12_must_17 (kX12_fail G _ _ _) (fun _ hr => cX12_failk hr) ⟨Nat.le_of_ble_eq_true rfl, Nat.le_of_ble_eq_true rfl⟩ ⟨Nat.le_refl _, Nat.le_refl _⟩ rfl (Nat.le_of_ble_eq_true rfl) (fun _ σ3 _ => ?_)
    exact hj_vret dX12_must_20 rfl rfl (Nat.le_refl _)
  · refine hj_aload_n 0 dX12_must_8 rfl ?_
    refine hj_callV (ci := 12) (M' := mX12_goesOn) (h' := 2) (As := []) mfX12_goesOn mvX12_goesOn ⟨_, _, rfl⟩ mlX12_212 dX12_must_9 (kX12_goesOn G _ _) (fun _ hr => cX12_goesOnk hr) ⟨Nat.le_of_ble_eq_true rfl, Nat.le_of_ble_eq_true rfl⟩ ⟨Nat.le_refl _, Nat.le_refl _⟩ rfl (Nat.le_of_ble_eq_true rfl) (fun _ σ4 _ => ?_)
    refine hj_goto 20 dX12_must_12 (by decide) ?_
    exact hj_vret dX12_must_20 rfl rfl (Nat.le_refl _)
theorem cX12_mustk {a0 : Nat} {a1 : Int32} {σ : Sto} {r : Unit × Sto} (h : fX12_must a0 a1 σ = some r) : ∃ fs, hs_o σ 12 a0 = some fs := (ck_of h).1
def fX12_bounded_b15 (x0 : Nat) (x1 : Int32) (σ : Sto) : Option (Int32 × Sto) := (cb (fX12_fail x0 ((1 : Int32)) σ) fun _ σ4 => (some (x1, σ4)))
set_option maxHeartbeats 2000000 in
theorem sX12_bounded_b15 {G : GP} {n0 : Nat} : ∀ (x0 : Nat) (x1 : Int32) (σ : Sto), Sim G mX12_bounded 3 0 0 n0 jI 0 0 15 [(0, .ref x0), (1, .int x1)] [] σ (fX12_bounded_b15 x0 x1 σ) := by
  intro x0 x1 σ
  unfold fX12_bounded_b15
  refine hj_aload_n 0 dX12_bounded_15 rfl ?_
  refine hj_iconst (1 : Int32) dX12_bounded_16 (by decide) ?_
  refine hj_callV (ci := 12) (M' := mX12_fail) (h' := 1) (As := [.int ((1 : Int32))]) mfX12_fail mvX12_fail ⟨_, _, rfl⟩ mlX12_206 dX12_bounded_17 (kX12_fail G _ _ _) (fun _ hr => cX12_failk hr) ⟨Nat.le_of_ble_eq_true rfl, Nat.le_of_ble_eq_true rfl⟩ ⟨Nat.le_refl _, Nat.le_refl _⟩ rfl (Nat.le_of_ble_eq_true rfl) (fun _ σ4 _ => ?_)
  refine hj_iload_n 1 dX12_bounded_20 rfl ?_
  exact hj_iret dX12_bounded_21 rfl rfl (Nat.le_refl _)
def fX12_bounded_b51 (x0 : Nat) (x3 : Int32) (σ : Sto) : Option (Int32 × Sto) := (cb (fX12_goesOn x0 σ) fun _ σ3 => (some (x3, σ3)))
set_option maxHeartbeats 2000000 in
theorem sX12_bounded_b51 {G : GP} {n0 : Nat} : ∀ (x0 : Nat) (x3 : Int32) (σ : Sto), Sim G mX12_bounded 3 0 0 n0 jI 0 0 51 [(0, .ref x0), (3, .int x3)] [] σ (fX12_bounded_b51 x0 x3 σ) := by
  intro x0 x3 σ
  unfold fX12_bounded_b51
  refine hj_aload_n 0 dX12_bounded_51 rfl ?_
  refine hj_callV (ci := 12) (M' := mX12_goesOn) (h' := 2) (As := []) mfX12_goesOn mvX12_goesOn ⟨_, _, rfl⟩ mlX12_212 dX12_bounded_52 (kX12_goesOn G _ _) (fun _ hr => cX12_goesOnk hr) ⟨Nat.le_of_ble_eq_true rfl, Nat.le_of_ble_eq_true rfl⟩ ⟨Nat.le_refl _, Nat.le_refl _⟩ rfl (Nat.le_of_ble_eq_true rfl) (fun _ σ3 _ => ?_)
  refine hj_iload_n 1 dX12_bounded_55 rfl ?_
  exact hj_iret dX12_bounded_56 rfl rfl (Nat.le_refl _)
def fX12_bounded_b42 (x0 : Nat) (x3 : Int32) (σ : Sto) : Option (Int32 × Sto) := ((gI σ 12 x0 11).bind fun t1 => (cb (fX12_wrong x0 ((5 : Int32)) t1 σ) fun _ σ2 => (fX12_bounded_b51 x0 x3 σ2)))
set_option maxHeartbeats 2000000 in
theorem sX12_bounded_b42 {G : GP} {n0 : Nat} : ∀ (x0 : Nat) (x3 : Int32) (σ : Sto), Sim G mX12_bounded 3 0 0 n0 jI 0 0 42 [(0, .ref x0), (3, .int x3)] [] σ (fX12_bounded_b42 x0 x3 σ) := by
  intro x0 x3 σ
  unfold fX12_bounded_b42
  refine hj_aload_n 0 dX12_bounded_42 rfl ?_
  refine hj_iconst (5 : Int32) dX12_bounded_43 (by decide) ?_
  refine hj_aload_n 0 dX12_bounded_44 rfl ?_
  refine hj_getI flX12_194 dX12_bounded_45 (fun t1 _ => ?_)
  refine hj_callV (ci := 12) (M' := mX12_wrong) (h' := 1) (As := [.int ((5 : Int32)), .int t1]) mfX12_wrong mvX12_wrong ⟨_, _, rfl⟩ mlX12_272 dX12_bounded_48 (kX12_wrong G _ _ _ _) (fun _ hr => cX12_wrongk hr) ⟨Nat.le_of_ble_eq_true rfl, Nat.le_of_ble_eq_true rfl⟩ ⟨Nat.le_refl _, Nat.le_refl _⟩ rfl (Nat.le_of_ble_eq_true rfl) (fun _ σ2 _ => ?_)
  refine hj_loc (lv' := [(0, .ref x0), (3, .int x3)]) [0, 1] rfl ?_
  exact sX12_bounded_b51 _ _ _
def fX12_bounded (a0 : Nat) (a1 : Int32) (a2 : Int32) (σ : Sto) : Option (Int32 × Sto) := ck σ 12 a0 ((gI σ 12 a0 13).bind fun t5 => (if 0 < t5 then (fX12_bounded_b15 a0 a1 σ) else (cb (fX12_is a0 ((2 : Int32)) σ) fun r7 σ6 => (if r7 = 0 then (fX12_bounded_b15 a0 a1 σ6) else ((gR σ6 12 a0 7).bind fun t8 => ((gI σ6 12 a0 11).bind fun t9 => ((aI σ6 2 t8 t9).bind fun t10 => (if t10 < a1 then (fX12_bounded_b42 a0 t10 σ6) else (if t10 ≤ a2 then (fX12_bounded_b51 a0 t10 σ6) else (fX12_bounded_b42 a0 t10 σ6))))))))))
set_option maxHeartbeats 2000000 in
theorem kX12_bounded (G : GP) (a0 : Nat) (a1 : Int32) (a2 : Int32) (σ : Sto) : Me G mX12_bounded 3 0 0 jI [.ref a0, .int a1, .int a2] σ (fX12_bounded a0 a1 a2 σ) := by
  refine hs_me (lv := [(0, .ref a0), (1, .int a1), (2, .int a2)]) (plainFor_of_name (by decide +kernel)) (Nat.le_of_ble_eq_true rfl) rfl ?_
  unfold fX12_bounded
  refine hj_ck ?_
  refine hj_aload_n 0 dX12_bounded_0 rfl ?_
  refine hj_getI flX12_191 dX12_bounded_1 (fun t5 _ => ?_)
  refine hj_if_gt 15 dX12_bounded_4 (by decide) (fun _ => ?_) (fun _ => ?_)
  · refine hj_loc (lv' := [(0, .ref a0), (1, .int a1)]) [0, 1] rfl ?_
    exact sX12_bounded_b15 _ _ _
  · refine hj_aload_n 0 dX12_bounded_7 rfl ?_
    refine hj_iconst (2 : Int32) dX12_bounded_8 (by decide) ?_
    refine hj_callV (ci := 12) (M' := mX12_is) (h' := 1) (As := [.int ((2 : Int32))]) mfX12_is mvX12_is ⟨_, _, rfl⟩ mlX12_209 dX12_bounded_9 (kX12_is G _ _ _) (fun _ hr => cX12_isk hr) ⟨Nat.le_of_ble_eq_true rfl, Nat.le_of_ble_eq_true rfl⟩ ⟨Nat.le_refl _, Nat.le_refl _⟩ rfl (Nat.le_of_ble_eq_true rfl) (fun r7 σ6 _ => ?_)
    refine hj_if_ne 22 dX12_bounded_12 (by decide) (fun _ => ?_) (fun _ => ?_)
    · refine hj_aload_n 0 dX12_bounded_22 rfl ?_
      refine hj_getR flX12_27 dX12_bounded_23 (fun t8 _ => ?_)
      refine hj_aload_n 0 dX12_bounded_26 rfl ?_
      refine hj_getI flX12_194 dX12_bounded_27 (fun t9 _ => ?_)
      refine hj_iald dX12_bounded_30 (fun t10 _ => ?_)
      refine hj_istore_n (lv' := [(0, .ref a0), (1, .int a1), (2, .int a2), (3, .int t10)]) dX12_bounded_31 (by decide) [1, 2, 3, 0] rfl ?_
      refine hj_iload_n 3 dX12_bounded_32 rfl ?_
      refine hj_iload_n 1 dX12_bounded_33 rfl ?_
      refine hj_icmp_lt 42 dX12_bounded_34 (by decide) (fun _ => ?_) (fun _ => ?_)
      · refine hj_loc (lv' := [(0, .ref a0), (3, .int t10)]) [0, 3] rfl ?_
        exact sX12_bounded_b42 _ _ _
      · refine hj_iload_n 3 dX12_bounded_37 rfl ?_
        refine hj_iload_n 2 dX12_bounded_38 rfl ?_
        refine hj_icmp_le 51 dX12_bounded_39 (by decide) (fun _ => ?_) (fun _ => ?_)
        · refine hj_loc (lv' := [(0, .ref a0), (3, .int t10)]) [0, 3] rfl ?_
          exact sX12_bounded_b51 _ _ _
        · refine hj_loc (lv' := [(0, .ref a0), (3, .int t10)]) [0, 3] rfl ?_
          exact sX12_bounded_b42 _ _ _
    · refine hj_loc (lv' := [(0, .ref a0), (1, .int a1)]) [0, 1] rfl ?_
      exact sX12_bounded_b15 _ _ _
theorem cX12_boundedk {a0 : Nat} {a1 : Int32} {a2 : Int32} {σ : Sto} {r : Int32 × Sto} (h : fX12_bounded a0 a1 a2 σ = some r) : ∃ fs, hs_o σ 12 a0 = some fs := (ck_of h).1
def fX12_known_b53 (x0 : Nat) (x1 : Int32) (σ : Sto) : Option (Int32 × Sto) := (cb (fX12_wrong x0 ((4 : Int32)) x1 σ) fun _ σ1 => (some ((-1 : Int32), σ1)))
set_option maxHeartbeats 2000000 in
theorem sX12_known_b53 {G : GP} {n0 : Nat} : ∀ (x0 : Nat) (x1 : Int32) (σ : Sto), Sim G mX12_known 4 0 0 n0 jI 0 0 53 [(0, .ref x0), (1, .int x1)] [] σ (fX12_known_b53 x0 x1 σ) := by
  intro x0 x1 σ
  unfold fX12_known_b53
  refine hj_aload_n 0 dX12_known_53 rfl ?_
  refine hj_iconst (4 : Int32) dX12_known_54 (by decide) ?_
  refine hj_iload_n 1 dX12_known_55 rfl ?_
  refine hj_callV (ci := 12) (M' := mX12_wrong) (h' := 1) (As := [.int ((4 : Int32)), .int x1]) mfX12_wrong mvX12_wrong ⟨_, _, rfl⟩ mlX12_272 dX12_known_56 (kX12_wrong G _ _ _ _) (fun _ hr => cX12_wrongk hr) ⟨Nat.le_of_ble_eq_true rfl, Nat.le_of_ble_eq_true rfl⟩ ⟨Nat.le_refl _, Nat.le_refl _⟩ rfl (Nat.le_of_ble_eq_true rfl) (fun _ σ1 _ => ?_)
  refine hj_iconst (-1 : Int32) dX12_known_59 (by decide) ?_
  exact hj_iret dX12_known_60 rfl rfl (Nat.le_refl _)
def fX12_known_b21 : Nat → Nat → Int32 → Int32 → Sto → Option (Int32 × Sto)
  | 0, _, _, _, _ => none
  | n + 1, x0, x1, x2, σ => ((gI σ 12 x0 20).bind fun t2 => (if t2 ≤ x2 then (fX12_known_b53 x0 x1 σ) else ((gR σ 12 x0 21).bind fun t3 => ((aL σ 3 t3 x2).bind fun t4 => ((gR σ 12 x0 8).bind fun t5 => ((aL σ 3 t5 x1).bind fun t6 => (if (lg_cmp t4 t6) = 0 then (some (x2, σ)) else (fX12_known_b21 n x0 x1 (x2 + (1 : Int32)) σ))))))))
set_option maxHeartbeats 2000000 in
theorem sX12_known_b21 {G : GP} {n0 : Nat} : ∀ (n : Nat) (x0 : Nat) (x1 : Int32) (x2 : Int32) (σ : Sto), Sim G mX12_known 4 0 0 n0 jI 0 0 21 [(0, .ref x0), (1, .int x1), (2, .int x2)] [] σ (fX12_known_b21 n x0 x1 x2 σ) := by
  intro n
  induction n with
  | zero => intros; rw [fX12_known_b21]; exact hj_none
  | succ n ih =>
    intro x0 x1 x2 σ
    rw [fX12_known_b21]
    refine hj_iload_n 2 dX12_known_21 rfl ?_
    refine hj_aload_n 0 dX12_known_22 rfl ?_
    refine hj_getI flX12_227 dX12_known_23 (fun t2 _ => ?_)
    refine hj_icmp_ge 53 dX12_known_26 (by decide) (fun _ => ?_) (fun _ => ?_)
    · refine hj_loc (lv' := [(0, .ref x0), (1, .int x1)]) [0, 1] rfl ?_
      exact sX12_known_b53 _ _ _
    · refine hj_aload_n 0 dX12_known_29 rfl ?_
      refine hj_getR flX12_40 dX12_known_30 (fun t3 _ => ?_)
      refine hj_iload_n 2 dX12_known_33 rfl ?_
      refine hj_lald dX12_known_34 (fun t4 _ => ?_)
      refine hj_aload_n 0 dX12_known_35 rfl ?_
      refine hj_getR flX12_30 dX12_known_36 (fun t5 _ => ?_)
      refine hj_iload_n 1 dX12_known_39 rfl ?_
      refine hj_lald dX12_known_40 (fun t6 _ => ?_)
      refine hj_lcmp dX12_known_41 ?_
      refine hj_if_ne 47 dX12_known_42 (by decide) (fun _ => ?_) (fun _ => ?_)
      · refine hj_iinc (lv' := [(0, .ref x0), (1, .int x1), (2, .int (x2 + (1 : Int32)))]) 2 (1 : Int32) dX12_known_47 rfl (by decide) (by decide) [1, 2, 0] rfl ?_
        refine hj_goto 21 dX12_known_50 (by decide) ?_
        refine hj_loc (lv' := [(0, .ref x0), (1, .int x1), (2, .int (x2 + (1 : Int32)))]) [0, 1, 2] rfl ?_
        exact ih _ _ _ _
      · refine hj_iload_n 2 dX12_known_45 rfl ?_
        exact hj_iret dX12_known_46 rfl rfl (Nat.le_refl _)
def fX12_known (a0 : Nat) (σ : Sto) : Option (Int32 × Sto) := ck σ 12 a0 ((gI σ 12 a0 11).bind fun t7 => (cb (fX12_must a0 ((1 : Int32)) σ) fun _ σ8 => ((gI σ8 12 a0 13).bind fun t9 => (if t9 ≤ 0 then (fX12_known_b21 FU a0 t7 ((0 : Int32)) σ8) else (some ((-1 : Int32), σ8))))))
set_option maxHeartbeats 2000000 in
theorem kX12_known (G : GP) (a0 : Nat) (σ : Sto) : Me G mX12_known 4 0 0 jI [.ref a0] σ (fX12_known a0 σ) := by
  refine hs_me (lv := [(0, .ref a0)]) (plainFor_of_name (by decide +kernel)) (Nat.le_of_ble_eq_true rfl) rfl ?_
  unfold fX12_known
  refine hj_ck ?_
  refine hj_aload_n 0 dX12_known_0 rfl ?_
  refine hj_getI flX12_194 dX12_known_1 (fun t7 _ => ?_)
  refine hj_istore_n (lv' := [(0, .ref a0), (1, .int t7)]) dX12_known_4 (by decide) [1, 0] rfl ?_
  refine hj_aload_n 0 dX12_known_5 rfl ?_
  refine hj_iconst (1 : Int32) dX12_known_6 (by decide) ?_
  refine hj_callV (ci := 12) (M' := mX12_must) (h' := 3) (As := [.int ((1 : Int32))]) mfX12_must mvX12_must ⟨_, _, rfl⟩ mlX12_263 dX12_known_7 (kX12_must G _ _ _) (fun _ hr => cX12_mustk hr) ⟨Nat.le_of_ble_eq_true rfl, Nat.le_of_ble_eq_true rfl⟩ ⟨Nat.le_refl _, Nat.le_refl _⟩ rfl (Nat.le_of_ble_eq_true rfl) (fun _ σ8 _ => ?_)
  refine hj_aload_n 0 dX12_known_10 rfl ?_
  refine hj_getI flX12_191 dX12_known_11 (fun t9 _ => ?_)
  refine hj_if_le 19 dX12_known_14 (by decide) (fun _ => ?_) (fun _ => ?_)
  · refine hj_iconst (0 : Int32) dX12_known_19 (by decide) ?_
    refine hj_istore_n (lv' := [(0, .ref a0), (1, .int t7), (2, .int (0 : Int32))]) dX12_known_20 (by decide) [1, 2, 0] rfl ?_
    refine hj_loc (lv' := [(0, .ref a0), (1, .int t7), (2, .int (0 : Int32))]) [0, 1, 2] rfl ?_
    exact sX12_known_b21 _ _ _ _ _
  · refine hj_iconst (-1 : Int32) dX12_known_17 (by decide) ?_
    exact hj_iret dX12_known_18 rfl rfl (Nat.le_refl _)
theorem cX12_knownk {a0 : Nat} {σ : Sto} {r : Int32 × Sto} (h : fX12_known a0 σ = some r) : ∃ fs, hs_o σ 12 a0 = some fs := (ck_of h).1
def fX12_roomFor_b10 (x0 : Nat) (σ : Sto) : Option (Unit × Sto) := ((gI σ 12 x0 13).bind fun t1 => (if t1 = 0 then (cb (fX12_goesOn x0 σ) fun _ σ2 => (some ((), σ2))) else (some ((), σ))))
set_option maxHeartbeats 2000000 in
theorem sX12_roomFor_b10 {G : GP} {n0 : Nat} : ∀ (x0 : Nat) (σ : Sto), Sim G mX12_roomFor 3 0 0 n0 jV 0 0 10 [(0, .ref x0)] [] σ (fX12_roomFor_b10 x0 σ) := by
  intro x0 σ
  unfold fX12_roomFor_b10
  refine hj_aload_n 0 dX12_roomFor_10 rfl ?_
  refine hj_getI flX12_191 dX12_roomFor_11 (fun t1 _ => ?_)
  refine hj_if_ne 21 dX12_roomFor_14 (by decide) (fun _ => ?_) (fun _ => ?_)
  · exact hj_vret dX12_roomFor_21 rfl rfl (Nat.le_refl _)
  · refine hj_aload_n 0 dX12_roomFor_17 rfl ?_
    refine hj_callV (ci := 12) (M' := mX12_goesOn) (h' := 2) (As := []) mfX12_goesOn mvX12_goesOn ⟨_, _, rfl⟩ mlX12_212 dX12_roomFor_18 (kX12_goesOn G _ _) (fun _ hr => cX12_goesOnk hr) ⟨Nat.le_of_ble_eq_true rfl, Nat.le_of_ble_eq_true rfl⟩ ⟨Nat.le_refl _, Nat.le_refl _⟩ rfl (Nat.le_of_ble_eq_true rfl) (fun _ σ2 _ => ?_)
    exact hj_vret dX12_roomFor_21 rfl rfl (Nat.le_refl _)
def fX12_roomFor (a0 : Nat) (a1 : Int32) (a2 : Int32) (σ : Sto) : Option (Unit × Sto) := ck σ 12 a0 (if a1 = a2 then (cb (fX12_fail a0 ((2 : Int32)) σ) fun _ σ3 => (fX12_roomFor_b10 a0 σ3)) else (fX12_roomFor_b10 a0 σ))
set_option maxHeartbeats 2000000 in
theorem kX12_roomFor (G : GP) (a0 : Nat) (a1 : Int32) (a2 : Int32) (σ : Sto) : Me G mX12_roomFor 3 0 0 jV [.ref a0, .int a1, .int a2] σ (fX12_roomFor a0 a1 a2 σ) := by
  refine hs_me (lv := [(0, .ref a0), (1, .int a1), (2, .int a2)]) (plainFor_of_name (by decide +kernel)) (Nat.le_of_ble_eq_true rfl) rfl ?_
  unfold fX12_roomFor
  refine hj_ck ?_
  refine hj_iload_n 1 dX12_roomFor_0 rfl ?_
  refine hj_iload_n 2 dX12_roomFor_1 rfl ?_
  refine hj_icmp_ne 10 dX12_roomFor_2 (by decide) (fun _ => ?_) (fun _ => ?_)
  · refine hj_loc (lv' := [(0, .ref a0)]) [0] rfl ?_
    exact sX12_roomFor_b10 _ _
  · refine hj_aload_n 0 dX12_roomFor_5 rfl ?_
    refine hj_iconst (2 : Int32) dX12_roomFor_6 (by decide) ?_
    refine hj_callV (ci := 12) (M' := mX12_fail) (h' := 1) (As := [.int ((2 : Int32))]) mfX12_fail mvX12_fail ⟨_, _, rfl⟩ mlX12_206 dX12_roomFor_7 (kX12_fail G _ _ _) (fun _ hr => cX12_failk hr) ⟨Nat.le_of_ble_eq_true rfl, Nat.le_of_ble_eq_true rfl⟩ ⟨Nat.le_refl _, Nat.le_refl _⟩ rfl (Nat.le_of_ble_eq_true rfl) (fun _ σ3 _ => ?_)
    refine hj_loc (lv' := [(0, .ref a0)]) [0] rfl ?_
    exact sX12_roomFor_b10 _ _
theorem cX12_roomFork {a0 : Nat} {a1 : Int32} {a2 : Int32} {σ : Sto} {r : Unit × Sto} (h : fX12_roomFor a0 a1 a2 σ = some r) : ∃ fs, hs_o σ 12 a0 = some fs := (ck_of h).1
def fX12_tellBook_b73 (x0 : Nat) (x1 : Int32) (x2 : Int32) (σ : Sto) : Option (Unit × Sto) := ((gR σ 12 x0 23).bind fun t1 => (cb (fX12_bounded x0 ((1 : Int32)) ((99 : Int32)) σ) fun r3 σ2 => ((sI σ2 2 t1 x1 r3).bind fun σ4 => ((gR σ4 12 x0 24).bind fun t5 => (cb (fX12_bounded x0 ((1 : Int32)) ((20 : Int32)) σ4) fun r7 σ6 => ((sI σ6 2 t5 x1 r7).bind fun σ8 => (cb (fX12_must x0 ((4 : Int32)) σ8) fun _ σ9 => ((gI σ9 12 x0 13).bind fun t10 => (if t10 ≤ 0 then ((gR σ9 12 x0 21).bind fun t11 => ((gI σ9 12 x0 20).bind fun t12 => ((gR σ9 12 x0 8).bind fun t13 => ((aL σ9 3 t13 x2).bind fun t14 => ((sL σ9 3 t11 t12 t14).bind fun σ15 => ((gI σ15 12 x0 20).bind fun t16 => ((pV σ15 12 x0 20 (.int ((t16 + ((1 : Int32)))))).bind fun σ17 => ((gR σ17 12 x0 22).bind fun t18 => ((gI σ17 12 x0 19).bind fun t19 => ((aI σ17 2 t18 t19).bind fun t20 => ((sI σ17 2 t18 t19 ((t20 + ((1 : Int32))))).bind fun σ21 => (some ((), σ21))))))))))))) else (some ((), σ9)))))))))))
set_option maxHeartbeats 2000000 in
theorem sX12_tellBook_b73 {G : GP} {n0 : Nat} : ∀ (x0 : Nat) (x1 : Int32) (x2 : Int32) (σ : Sto), Sim G mX12_tellBook 4 0 0 n0 jV 0 0 73 [(0, .ref x0), (1, .int x1), (2, .int x2)] [] σ (fX12_tellBook_b73 x0 x1 x2 σ) := by
  intro x0 x1 x2 σ
  unfold fX12_tellBook_b73
  refine hj_aload_n 0 dX12_tellBook_73 rfl ?_
  refine hj_getR flX12_46 dX12_tellBook_74 (fun t1 _ => ?_)
  refine hj_iload_n 1 dX12_tellBook_77 rfl ?_
  refine hj_aload_n 0 dX12_tellBook_78 rfl ?_
  refine hj_iconst (1 : Int32) dX12_tellBook_79 (by decide) ?_
  refine hj_bipush (99 : Int32) dX12_tellBook_80 (by decide) ?_
  refine hj_callV (ci := 12) (M' := mX12_bounded) (h' := 3) (As := [.int ((1 : Int32)), .int ((99 : Int32))]) mfX12_bounded mvX12_bounded ⟨_, _, rfl⟩ mlX12_259 dX12_tellBook_82 (kX12_bounded G _ _ _ _) (fun _ hr => cX12_boundedk hr) ⟨Nat.le_of_ble_eq_true rfl, Nat.le_of_ble_eq_true rfl⟩ ⟨Nat.le_refl _, Nat.le_refl _⟩ rfl (Nat.le_of_ble_eq_true rfl) (fun r3 σ2 _ => ?_)
  refine hj_iast dX12_tellBook_85 (fun σ4 _ => ?_)
  refine hj_aload_n 0 dX12_tellBook_86 rfl ?_
  refine hj_getR flX12_49 dX12_tellBook_87 (fun t5 _ => ?_)
  refine hj_iload_n 1 dX12_tellBook_90 rfl ?_
  refine hj_aload_n 0 dX12_tellBook_91 rfl ?_
  refine hj_iconst (1 : Int32) dX12_tellBook_92 (by decide) ?_
  refine hj_bipush (20 : Int32) dX12_tellBook_93 (by decide) ?_
  refine hj_callV (ci := 12) (M' := mX12_bounded) (h' := 3) (As := [.int ((1 : Int32)), .int ((20 : Int32))]) mfX12_bounded mvX12_bounded ⟨_, _, rfl⟩ mlX12_259 dX12_tellBook_95 (kX12_bounded G _ _ _ _) (fun _ hr => cX12_boundedk hr) ⟨Nat.le_of_ble_eq_true rfl, Nat.le_of_ble_eq_true rfl⟩ ⟨Nat.le_refl _, Nat.le_refl _⟩ rfl (Nat.le_of_ble_eq_true rfl) (fun r7 σ6 _ => ?_)
  refine hj_iast dX12_tellBook_98 (fun σ8 _ => ?_)
  refine hj_aload_n 0 dX12_tellBook_99 rfl ?_
  refine hj_iconst (4 : Int32) dX12_tellBook_100 (by decide) ?_
  refine hj_callV (ci := 12) (M' := mX12_must) (h' := 3) (As := [.int ((4 : Int32))]) mfX12_must mvX12_must ⟨_, _, rfl⟩ mlX12_263 dX12_tellBook_101 (kX12_must G _ _ _) (fun _ hr => cX12_mustk hr) ⟨Nat.le_of_ble_eq_true rfl, Nat.le_of_ble_eq_true rfl⟩ ⟨Nat.le_refl _, Nat.le_refl _⟩ rfl (Nat.le_of_ble_eq_true rfl) (fun _ σ9 _ => ?_)
  refine hj_aload_n 0 dX12_tellBook_104 rfl ?_
  refine hj_getI flX12_191 dX12_tellBook_105 (fun t10 _ => ?_)
  refine hj_if_le 112 dX12_tellBook_108 (by decide) (fun _ => ?_) (fun _ => ?_)
  · refine hj_aload_n 0 dX12_tellBook_112 rfl ?_
    refine hj_getR flX12_40 dX12_tellBook_113 (fun t11 _ => ?_)
    refine hj_aload_n 0 dX12_tellBook_116 rfl ?_
    refine hj_getI flX12_227 dX12_tellBook_117 (fun t12 _ => ?_)
    refine hj_aload_n 0 dX12_tellBook_120 rfl ?_
    refine hj_getR flX12_30 dX12_tellBook_121 (fun t13 _ => ?_)
    refine hj_iload_n 2 dX12_tellBook_124 rfl ?_
    refine hj_lald dX12_tellBook_125 (fun t14 _ => ?_)
    refine hj_last dX12_tellBook_126 (fun σ15 _ => ?_)
    refine hj_aload_n 0 dX12_tellBook_127 rfl ?_
    refine hj_dup dX12_tellBook_128 rfl ?_
    refine hj_getI flX12_227 dX12_tellBook_129 (fun t16 _ => ?_)
    refine hj_iconst (1 : Int32) dX12_tellBook_132 (by decide) ?_
    refine hj_iadd dX12_tellBook_133 ?_
    refine hj_put (fpX12_227 _) (fun _ => rfl) (fun _ => rfl) dX12_tellBook_134 (fun σ17 _ => ?_)
    refine hj_aload_n 0 dX12_tellBook_137 rfl ?_
    refine hj_getR flX12_43 dX12_tellBook_138 (fun t18 _ => ?_)
    refine hj_aload_n 0 dX12_tellBook_141 rfl ?_
    refine hj_getI flX12_224 dX12_tellBook_142 (fun t19 _ => ?_)
    refine hj_dup2 dX12_tellBook_145 rfl rfl ?_
    refine hj_iald dX12_tellBook_146 (fun t20 _ => ?_)
    refine hj_iconst (1 : Int32) dX12_tellBook_147 (by decide) ?_
    refine hj_iadd dX12_tellBook_148 ?_
    refine hj_iast dX12_tellBook_149 (fun σ21 _ => ?_)
    exact hj_vret dX12_tellBook_150 rfl rfl (Nat.le_refl _)
  · exact hj_vret dX12_tellBook_111 rfl rfl (Nat.le_refl _)
def fX12_tellBook_b67 (K30 : Nat → Int32 → Int32 → Int32 → Sto → Option (Unit × Sto)) (x0 : Nat) (x1 : Int32) (x2 : Int32) (x3 : Int32) (σ : Sto) : Option (Unit × Sto) := (K30 x0 x1 x2 (x3 + (1 : Int32)) σ)
set_option maxHeartbeats 2000000 in
theorem sX12_tellBook_b67 {G : GP} {n0 : Nat} {K30 : Nat → Int32 → Int32 → Int32 → Sto → Option (Unit × Sto)} (hK30 : ∀ (x0 : Nat) (x1 : Int32) (x2 : Int32) (x3 : Int32) (σ : Sto), Sim G mX12_tellBook 4 0 0 n0 jV 0 0 30 [(0, .ref x0), (1, .int x1), (2, .int x2), (3, .int x3)] [] σ (K30 x0 x1 x2 x3 σ)) : ∀ (x0 : Nat) (x1 : Int32) (x2 : Int32) (x3 : Int32) (σ : Sto), Sim G mX12_tellBook 4 0 0 n0 jV 0 0 67 [(0, .ref x0), (1, .int x1), (2, .int x2), (3, .int x3)] [] σ (fX12_tellBook_b67 K30 x0 x1 x2 x3 σ) := by
  intro x0 x1 x2 x3 σ
  unfold fX12_tellBook_b67
  refine hj_iinc (lv' := [(0, .ref x0), (1, .int x1), (2, .int x2), (3, .int (x3 + (1 : Int32)))]) 3 (1 : Int32) dX12_tellBook_67 rfl (by decide) (by decide) [1, 2, 3, 0] rfl ?_
  refine hj_goto 30 dX12_tellBook_70 (by decide) ?_
  refine hj_loc (lv' := [(0, .ref x0), (1, .int x1), (2, .int x2), (3, .int (x3 + (1 : Int32)))]) [0, 1, 2, 3] rfl ?_
  exact hK30 _ _ _ _ _
def fX12_tellBook_b30 : Nat → Nat → Int32 → Int32 → Int32 → Sto → Option (Unit × Sto)
  | 0, _, _, _, _, _ => none
  | n + 1, x0, x1, x2, x3, σ => ((gI σ 12 x0 20).bind fun t22 => (if t22 ≤ x3 then (fX12_tellBook_b73 x0 x1 x2 σ) else ((gI σ 12 x0 13).bind fun t23 => (if t23 = 0 then ((gR σ 12 x0 21).bind fun t24 => ((aL σ 3 t24 x3).bind fun t25 => ((gR σ 12 x0 8).bind fun t26 => ((aL σ 3 t26 x2).bind fun t27 => (if (lg_cmp t25 t27) = 0 then (cb (fX12_wrong x0 ((3 : Int32)) x2 σ) fun _ σ28 => (fX12_tellBook_b67 (fX12_tellBook_b30 n) x0 x1 x2 x3 σ28)) else (fX12_tellBook_b67 (fX12_tellBook_b30 n) x0 x1 x2 x3 σ)))))) else (fX12_tellBook_b73 x0 x1 x2 σ)))))
set_option maxHeartbeats 2000000 in
theorem sX12_tellBook_b30 {G : GP} {n0 : Nat} : ∀ (n : Nat) (x0 : Nat) (x1 : Int32) (x2 : Int32) (x3 : Int32) (σ : Sto), Sim G mX12_tellBook 4 0 0 n0 jV 0 0 30 [(0, .ref x0), (1, .int x1), (2, .int x2), (3, .int x3)] [] σ (fX12_tellBook_b30 n x0 x1 x2 x3 σ) := by
  intro n
  induction n with
  | zero => intros; rw [fX12_tellBook_b30]; exact hj_none
  | succ n ih =>
    intro x0 x1 x2 x3 σ
    rw [fX12_tellBook_b30]
    refine hj_iload_n 3 dX12_tellBook_30 rfl ?_
    refine hj_aload_n 0 dX12_tellBook_31 rfl ?_
    refine hj_getI flX12_227 dX12_tellBook_32 (fun t22 _ => ?_)
    refine hj_icmp_ge 73 dX12_tellBook_35 (by decide) (fun _ => ?_) (fun _ => ?_)
    · refine hj_loc (lv' := [(0, .ref x0), (1, .int x1), (2, .int x2)]) [0, 1, 2] rfl ?_
      exact sX12_tellBook_b73 _ _ _ _
    · refine hj_aload_n 0 dX12_tellBook_38 rfl ?_
      refine hj_getI flX12_191 dX12_tellBook_39 (fun t23 _ => ?_)
      refine hj_if_ne 73 dX12_tellBook_42 (by decide) (fun _ => ?_) (fun _ => ?_)
      · refine hj_loc (lv' := [(0, .ref x0), (1, .int x1), (2, .int x2)]) [0, 1, 2] rfl ?_
        exact sX12_tellBook_b73 _ _ _ _
      · refine hj_aload_n 0 dX12_tellBook_45 rfl ?_
        refine hj_getR flX12_40 dX12_tellBook_46 (fun t24 _ => ?_)
        refine hj_iload_n 3 dX12_tellBook_49 rfl ?_
        refine hj_lald dX12_tellBook_50 (fun t25 _ => ?_)
        refine hj_aload_n 0 dX12_tellBook_51 rfl ?_
        refine hj_getR flX12_30 dX12_tellBook_52 (fun t26 _ => ?_)
        refine hj_iload_n 2 dX12_tellBook_55 rfl ?_
        refine hj_lald dX12_tellBook_56 (fun t27 _ => ?_)
        refine hj_lcmp dX12_tellBook_57 ?_
        refine hj_if_ne 67 dX12_tellBook_58 (by decide) (fun _ => ?_) (fun _ => ?_)
        · refine hj_loc (lv' := [(0, .ref x0), (1, .int x1), (2, .int x2), (3, .int x3)]) [0, 1, 2, 3] rfl ?_
          exact sX12_tellBook_b67 ih _ _ _ _ _
        · refine hj_aload_n 0 dX12_tellBook_61 rfl ?_
          refine hj_iconst (3 : Int32) dX12_tellBook_62 (by decide) ?_
          refine hj_iload_n 2 dX12_tellBook_63 rfl ?_
          refine hj_callV (ci := 12) (M' := mX12_wrong) (h' := 1) (As := [.int ((3 : Int32)), .int x2]) mfX12_wrong mvX12_wrong ⟨_, _, rfl⟩ mlX12_272 dX12_tellBook_64 (kX12_wrong G _ _ _ _) (fun _ hr => cX12_wrongk hr) ⟨Nat.le_of_ble_eq_true rfl, Nat.le_of_ble_eq_true rfl⟩ ⟨Nat.le_refl _, Nat.le_refl _⟩ rfl (Nat.le_of_ble_eq_true rfl) (fun _ σ28 _ => ?_)
          refine hj_loc (lv' := [(0, .ref x0), (1, .int x1), (2, .int x2), (3, .int x3)]) [0, 1, 2, 3] rfl ?_
          exact sX12_tellBook_b67 ih _ _ _ _ _
def fX12_tellBook (a0 : Nat) (σ : Sto) : Option (Unit × Sto) := ck σ 12 a0 ((gI σ 12 a0 19).bind fun t29 => ((gR σ 12 a0 22).bind fun t30 => ((gI σ 12 a0 19).bind fun t31 => ((aI σ 2 t30 t31).bind fun t32 => (lt ((((((6 : Int32)) * t29)) + t32)) fun v33 => ((gI σ 12 a0 11).bind fun t34 => (cb (fX12_must a0 ((1 : Int32)) σ) fun _ σ35 => (fX12_tellBook_b30 FU a0 v33 t34 ((0 : Int32)) σ35))))))))
set_option maxHeartbeats 2000000 in
theorem kX12_tellBook (G : GP) (a0 : Nat) (σ : Sto) : Me G mX12_tellBook 4 0 0 jV [.ref a0] σ (fX12_tellBook a0 σ) := by
  refine hs_me (lv := [(0, .ref a0)]) (plainFor_of_name (by decide +kernel)) (Nat.le_of_ble_eq_true rfl) rfl ?_
  unfold fX12_tellBook
  refine hj_ck ?_
  refine hj_bipush (6 : Int32) dX12_tellBook_0 (by decide) ?_
  refine hj_aload_n 0 dX12_tellBook_2 rfl ?_
  refine hj_getI flX12_224 dX12_tellBook_3 (fun t29 _ => ?_)
  refine hj_imul dX12_tellBook_6 ?_
  refine hj_aload_n 0 dX12_tellBook_7 rfl ?_
  refine hj_getR flX12_43 dX12_tellBook_8 (fun t30 _ => ?_)
  refine hj_aload_n 0 dX12_tellBook_11 rfl ?_
  refine hj_getI flX12_224 dX12_tellBook_12 (fun t31 _ => ?_)
  refine hj_iald dX12_tellBook_15 (fun t32 _ => ?_)
  refine hj_iadd dX12_tellBook_16 ?_
  refine hj_ltI (fun v33 _ => ?_)
  refine hj_istore_n (lv' := [(0, .ref a0), (1, .int v33)]) dX12_tellBook_17 (by decide) [1, 0] rfl ?_
  refine hj_aload_n 0 dX12_tellBook_18 rfl ?_
  refine hj_getI flX12_194 dX12_tellBook_19 (fun t34 _ => ?_)
  refine hj_istore_n (lv' := [(0, .ref a0), (1, .int v33), (2, .int t34)]) dX12_tellBook_22 (by decide) [1, 2, 0] rfl ?_
  refine hj_aload_n 0 dX12_tellBook_23 rfl ?_
  refine hj_iconst (1 : Int32) dX12_tellBook_24 (by decide) ?_
  refine hj_callV (ci := 12) (M' := mX12_must) (h' := 3) (As := [.int ((1 : Int32))]) mfX12_must mvX12_must ⟨_, _, rfl⟩ mlX12_263 dX12_tellBook_25 (kX12_must G _ _ _) (fun _ hr => cX12_mustk hr) ⟨Nat.le_of_ble_eq_true rfl, Nat.le_of_ble_eq_true rfl⟩ ⟨Nat.le_refl _, Nat.le_refl _⟩ rfl (Nat.le_of_ble_eq_true rfl) (fun _ σ35 _ => ?_)
  refine hj_iconst (0 : Int32) dX12_tellBook_28 (by decide) ?_
  refine hj_istore_n (lv' := [(0, .ref a0), (1, .int v33), (2, .int t34), (3, .int (0 : Int32))]) dX12_tellBook_29 (by decide) [1, 2, 3, 0] rfl ?_
  refine hj_loc (lv' := [(0, .ref a0), (1, .int v33), (2, .int t34), (3, .int (0 : Int32))]) [0, 1, 2, 3] rfl ?_
  exact sX12_tellBook_b30 _ _ _ _ _ _
theorem cX12_tellBookk {a0 : Nat} {σ : Sto} {r : Unit × Sto} (h : fX12_tellBook a0 σ = some r) : ∃ fs, hs_o σ 12 a0 = some fs := (ck_of h).1
def fX12_tellFly_b80 (x0 : Nat) (y0 : Nat) (y1 : Int32) (y2 : Nat) (y3 : Int32) (y4 : Int32) (σ : Sto) : Option (Unit × Sto) := (cb (fX12_bounded y2 y3 y4 σ) fun r2 σ1 => ((sI σ1 2 y0 y1 r2).bind fun σ3 => (cb (fX12_must x0 ((4 : Int32)) σ3) fun _ σ4 => ((gI σ4 12 x0 13).bind fun t5 => (if t5 = 0 then ((gR σ4 12 x0 26).bind fun t6 => ((gI σ4 12 x0 19).bind fun t7 => ((aI σ4 2 t6 t7).bind fun t8 => ((sI σ4 2 t6 t7 ((t8 + ((1 : Int32))))).bind fun σ9 => (some ((), σ9)))))) else (some ((), σ4)))))))
set_option maxHeartbeats 2000000 in
theorem sX12_tellFly_b80 {G : GP} {n0 : Nat} : ∀ (x0 : Nat) (y0 : Nat) (y1 : Int32) (y2 : Nat) (y3 : Int32) (y4 : Int32) (σ : Sto), Sim G mX12_tellFly 5 0 0 n0 jV 0 0 80 [(0, .ref x0)] [.int y4, .int y3, .ref y2, .int y1, .ref y0] σ (fX12_tellFly_b80 x0 y0 y1 y2 y3 y4 σ) := by
  intro x0 y0 y1 y2 y3 y4 σ
  unfold fX12_tellFly_b80
  refine hj_callV (ci := 12) (M' := mX12_bounded) (h' := 3) (As := [.int y3, .int y4]) mfX12_bounded mvX12_bounded ⟨_, _, rfl⟩ mlX12_259 dX12_tellFly_80 (kX12_bounded G _ _ _ _) (fun _ hr => cX12_boundedk hr) ⟨Nat.le_of_ble_eq_true rfl, Nat.le_of_ble_eq_true rfl⟩ ⟨Nat.le_refl _, Nat.le_refl _⟩ rfl (Nat.le_of_ble_eq_true rfl) (fun r2 σ1 _ => ?_)
  refine hj_iast dX12_tellFly_83 (fun σ3 _ => ?_)
  refine hj_aload_n 0 dX12_tellFly_84 rfl ?_
  refine hj_iconst (4 : Int32) dX12_tellFly_85 (by decide) ?_
  refine hj_callV (ci := 12) (M' := mX12_must) (h' := 3) (As := [.int ((4 : Int32))]) mfX12_must mvX12_must ⟨_, _, rfl⟩ mlX12_263 dX12_tellFly_86 (kX12_must G _ _ _) (fun _ hr => cX12_mustk hr) ⟨Nat.le_of_ble_eq_true rfl, Nat.le_of_ble_eq_true rfl⟩ ⟨Nat.le_refl _, Nat.le_refl _⟩ rfl (Nat.le_of_ble_eq_true rfl) (fun _ σ4 _ => ?_)
  refine hj_aload_n 0 dX12_tellFly_89 rfl ?_
  refine hj_getI flX12_191 dX12_tellFly_90 (fun t5 _ => ?_)
  refine hj_if_ne 109 dX12_tellFly_93 (by decide) (fun _ => ?_) (fun _ => ?_)
  · exact hj_vret dX12_tellFly_109 rfl rfl (Nat.le_refl _)
  · refine hj_aload_n 0 dX12_tellFly_96 rfl ?_
    refine hj_getR flX12_55 dX12_tellFly_97 (fun t6 _ => ?_)
    refine hj_aload_n 0 dX12_tellFly_100 rfl ?_
    refine hj_getI flX12_224 dX12_tellFly_101 (fun t7 _ => ?_)
    refine hj_dup2 dX12_tellFly_104 rfl rfl ?_
    refine hj_iald dX12_tellFly_105 (fun t8 _ => ?_)
    refine hj_iconst (1 : Int32) dX12_tellFly_106 (by decide) ?_
    refine hj_iadd dX12_tellFly_107 ?_
    refine hj_iast dX12_tellFly_108 (fun σ9 _ => ?_)
    exact hj_vret dX12_tellFly_109 rfl rfl (Nat.le_refl _)
def fX12_tellFly (a0 : Nat) (σ : Sto) : Option (Unit × Sto) := ck σ 12 a0 ((gI σ 12 a0 19).bind fun t10 => ((gR σ 12 a0 26).bind fun t11 => ((gI σ 12 a0 19).bind fun t12 => ((aI σ 2 t11 t12).bind fun t13 => (lt ((((((6 : Int32)) * t10)) + t13)) fun v14 => ((gR σ 12 a0 27).bind fun t15 => (cb (fX12_bounded a0 ((0 : Int32)) ((99 : Int32)) σ) fun r17 σ16 => ((sI σ16 2 t15 v14 r17).bind fun σ18 => (cb (fX12_must a0 ((27 : Int32)) σ18) fun _ σ19 => (cb (fX12_known a0 σ19) fun r21 σ20 => ((gR σ20 12 a0 28).bind fun t22 => ((sI σ20 2 t22 v14 r21).bind fun σ23 => ((gR σ23 12 a0 29).bind fun t24 => (if 0 ≤ r21 then ((gR σ23 12 a0 23).bind fun t25 => ((gI σ23 12 a0 19).bind fun t26 => ((aI σ23 2 t25 ((((((6 : Int32)) * t26)) + r21))).bind fun t27 => (fX12_tellFly_b80 a0 t24 v14 a0 ((0 : Int32)) t27 σ23)))) else (fX12_tellFly_b80 a0 t24 v14 a0 ((0 : Int32)) ((9999 : Int32)) σ23)))))))))))))))
set_option maxHeartbeats 2000000 in
theorem kX12_tellFly (G : GP) (a0 : Nat) (σ : Sto) : Me G mX12_tellFly 5 0 0 jV [.ref a0] σ (fX12_tellFly a0 σ) := by
  refine hs_me (lv := [(0, .ref a0)]) (plainFor_of_name (by decide +kernel)) (Nat.le_of_ble_eq_true rfl) rfl ?_
  unfold fX12_tellFly
  refine hj_ck ?_
  refine hj_bipush (6 : Int32) dX12_tellFly_0 (by decide) ?_
  refine hj_aload_n 0 dX12_tellFly_2 rfl ?_
  refine hj_getI flX12_224 dX12_tellFly_3 (fun t10 _ => ?_)
  refine hj_imul dX12_tellFly_6 ?_
  refine hj_aload_n 0 dX12_tellFly_7 rfl ?_
  refine hj_getR flX12_55 dX12_tellFly_8 (fun t11 _ => ?_)
  refine hj_aload_n 0 dX12_tellFly_11 rfl ?_
  refine hj_getI flX12_224 dX12_tellFly_12 (fun t12 _ => ?_)
  refine hj_iald dX12_tellFly_15 (fun t13 _ => ?_)
  refine hj_iadd dX12_tellFly_16 ?_
  refine hj_ltI (fun v14 _ => ?_)
  refine hj_istore_n (lv' := [(0, .ref a0), (1, .int v14)]) dX12_tellFly_17 (by decide) [1, 0] rfl ?_
  refine hj_aload_n 0 dX12_tellFly_18 rfl ?_
  refine hj_getR flX12_58 dX12_tellFly_19 (fun t15 _ => ?_)
  refine hj_iload_n 1 dX12_tellFly_22 rfl ?_
  refine hj_aload_n 0 dX12_tellFly_23 rfl ?_
  refine hj_iconst (0 : Int32) dX12_tellFly_24 (by decide) ?_
  refine hj_bipush (99 : Int32) dX12_tellFly_25 (by decide) ?_
  refine hj_callV (ci := 12) (M' := mX12_bounded) (h' := 3) (As := [.int ((0 : Int32)), .int ((99 : Int32))]) mfX12_bounded mvX12_bounded ⟨_, _, rfl⟩ mlX12_259 dX12_tellFly_27 (kX12_bounded G _ _ _ _) (fun _ hr => cX12_boundedk hr) ⟨Nat.le_of_ble_eq_true rfl, Nat.le_of_ble_eq_true rfl⟩ ⟨Nat.le_refl _, Nat.le_refl _⟩ rfl (Nat.le_of_ble_eq_true rfl) (fun r17 σ16 _ => ?_)
  refine hj_iast dX12_tellFly_30 (fun σ18 _ => ?_)
  refine hj_aload_n 0 dX12_tellFly_31 rfl ?_
  refine hj_bipush (27 : Int32) dX12_tellFly_32 (by decide) ?_
  refine hj_callV (ci := 12) (M' := mX12_must) (h' := 3) (As := [.int ((27 : Int32))]) mfX12_must mvX12_must ⟨_, _, rfl⟩ mlX12_263 dX12_tellFly_34 (kX12_must G _ _ _) (fun _ hr => cX12_mustk hr) ⟨Nat.le_of_ble_eq_true rfl, Nat.le_of_ble_eq_true rfl⟩ ⟨Nat.le_refl _, Nat.le_refl _⟩ rfl (Nat.le_of_ble_eq_true rfl) (fun _ σ19 _ => ?_)
  refine hj_aload_n 0 dX12_tellFly_37 rfl ?_
  refine hj_callV (ci := 12) (M' := mX12_known) (h' := 4) (As := []) mfX12_known mvX12_known ⟨_, _, rfl⟩ mlX12_252 dX12_tellFly_38 (kX12_known G _ _) (fun _ hr => cX12_knownk hr) ⟨Nat.le_of_ble_eq_true rfl, Nat.le_of_ble_eq_true rfl⟩ ⟨Nat.le_refl _, Nat.le_refl _⟩ rfl (Nat.le_of_ble_eq_true rfl) (fun r21 σ20 _ => ?_)
  refine hj_istore_n (lv' := [(0, .ref a0), (1, .int v14), (2, .int r21)]) dX12_tellFly_41 (by decide) [1, 2, 0] rfl ?_
  refine hj_aload_n 0 dX12_tellFly_42 rfl ?_
  refine hj_getR flX12_61 dX12_tellFly_43 (fun t22 _ => ?_)
  refine hj_iload_n 1 dX12_tellFly_46 rfl ?_
  refine hj_iload_n 2 dX12_tellFly_47 rfl ?_
  refine hj_iast dX12_tellFly_48 (fun σ23 _ => ?_)
  refine hj_aload_n 0 dX12_tellFly_49 rfl ?_
  refine hj_getR flX12_64 dX12_tellFly_50 (fun t24 _ => ?_)
  refine hj_iload_n 1 dX12_tellFly_53 rfl ?_
  refine hj_aload_n 0 dX12_tellFly_54 rfl ?_
  refine hj_iconst (0 : Int32) dX12_tellFly_55 (by decide) ?_
  refine hj_iload_n 2 dX12_tellFly_56 rfl ?_
  refine hj_if_ge 66 dX12_tellFly_57 (by decide) (fun _ => ?_) (fun _ => ?_)
  · refine hj_aload_n 0 dX12_tellFly_66 rfl ?_
    refine hj_getR flX12_46 dX12_tellFly_67 (fun t25 _ => ?_)
    refine hj_bipush (6 : Int32) dX12_tellFly_70 (by decide) ?_
    refine hj_aload_n 0 dX12_tellFly_72 rfl ?_
    refine hj_getI flX12_224 dX12_tellFly_73 (fun t26 _ => ?_)
    refine hj_imul dX12_tellFly_76 ?_
    refine hj_iload_n 2 dX12_tellFly_77 rfl ?_
    refine hj_iadd dX12_tellFly_78 ?_
    refine hj_iald dX12_tellFly_79 (fun t27 _ => ?_)
    refine hj_loc (lv' := [(0, .ref a0)]) [0] rfl ?_
    exact sX12_tellFly_b80 _ _ _ _ _ _ _
  · refine hj_sipush (9999 : Int32) dX12_tellFly_60 (by decide) ?_
    refine hj_goto 80 dX12_tellFly_63 (by decide) ?_
    refine hj_loc (lv' := [(0, .ref a0)]) [0] rfl ?_
    exact sX12_tellFly_b80 _ _ _ _ _ _ _
theorem cX12_tellFlyk {a0 : Nat} {σ : Sto} {r : Unit × Sto} (h : fX12_tellFly a0 σ = some r) : ∃ fs, hs_o σ 12 a0 = some fs := (ck_of h).1
def fX12_emit (a0 : Nat) (a1 : Int32) (a2 : Int32) (σ : Sto) : Option (Unit × Sto) := ck σ 12 a0 ((gR σ 12 a0 40).bind fun t1 => ((gI σ 12 a0 39).bind fun t2 => ((sI σ 2 t1 t2 a1).bind fun σ3 => ((gR σ3 12 a0 41).bind fun t4 => ((gI σ3 12 a0 39).bind fun t5 => ((sI σ3 2 t4 t5 a2).bind fun σ6 => ((gI σ6 12 a0 39).bind fun t7 => ((pV σ6 12 a0 39 (.int ((t7 + ((1 : Int32)))))).bind fun σ8 => (some ((), σ8))))))))))
set_option maxHeartbeats 2000000 in
theorem kX12_emit (G : GP) (a0 : Nat) (a1 : Int32) (a2 : Int32) (σ : Sto) : Me G mX12_emit 1 0 0 jV [.ref a0, .int a1, .int a2] σ (fX12_emit a0 a1 a2 σ) := by
  refine hs_me (lv := [(0, .ref a0), (1, .int a1), (2, .int a2)]) (plainFor_of_name (by decide +kernel)) (Nat.le_of_ble_eq_true rfl) rfl ?_
  unfold fX12_emit
  refine hj_ck ?_
  refine hj_aload_n 0 dX12_emit_0 rfl ?_
  refine hj_getR flX12_92 dX12_emit_1 (fun t1 _ => ?_)
  refine hj_aload_n 0 dX12_emit_4 rfl ?_
  refine hj_getI flX12_233 dX12_emit_5 (fun t2 _ => ?_)
  refine hj_iload_n 1 dX12_emit_8 rfl ?_
  refine hj_iast dX12_emit_9 (fun σ3 _ => ?_)
  refine hj_aload_n 0 dX12_emit_10 rfl ?_
  refine hj_getR flX12_95 dX12_emit_11 (fun t4 _ => ?_)
  refine hj_aload_n 0 dX12_emit_14 rfl ?_
  refine hj_getI flX12_233 dX12_emit_15 (fun t5 _ => ?_)
  refine hj_iload_n 2 dX12_emit_18 rfl ?_
  refine hj_iast dX12_emit_19 (fun σ6 _ => ?_)
  refine hj_aload_n 0 dX12_emit_20 rfl ?_
  refine hj_dup dX12_emit_21 rfl ?_
  refine hj_getI flX12_233 dX12_emit_22 (fun t7 _ => ?_)
  refine hj_iconst (1 : Int32) dX12_emit_25 (by decide) ?_
  refine hj_iadd dX12_emit_26 ?_
  refine hj_put (fpX12_233 _) (fun _ => rfl) (fun _ => rfl) dX12_emit_27 (fun σ8 _ => ?_)
  exact hj_vret dX12_emit_30 rfl rfl (Nat.le_refl _)
theorem cX12_emitk {a0 : Nat} {a1 : Int32} {a2 : Int32} {σ : Sto} {r : Unit × Sto} (h : fX12_emit a0 a1 a2 σ = some r) : ∃ fs, hs_o σ 12 a0 = some fs := (ck_of h).1
def fX12_comesOut_b84 (K0 : Nat → Int32 → Sto → Option (Unit × Sto)) (x0 : Nat) (x1 : Int32) (y0 : Nat) (y1 : Int32) (σ : Sto) : Option (Unit × Sto) := (cb (fX12_emit y0 y1 ((0 : Int32)) σ) fun _ σ7 => (K0 x0 x1 σ7))
set_option maxHeartbeats 2000000 in
theorem sX12_comesOut_b84 {G : GP} {n0 : Nat} {K0 : Nat → Int32 → Sto → Option (Unit × Sto)} (hK0 : ∀ (x0 : Nat) (x1 : Int32) (σ : Sto), Sim G mX12_comesOut 2 0 0 n0 jV 0 0 0 [(0, .ref x0), (1, .int x1)] [] σ (K0 x0 x1 σ)) : ∀ (x0 : Nat) (x1 : Int32) (y0 : Nat) (y1 : Int32) (σ : Sto), Sim G mX12_comesOut 2 0 0 n0 jV 0 0 84 [(0, .ref x0), (1, .int x1)] [.int y1, .ref y0] σ (fX12_comesOut_b84 K0 x0 x1 y0 y1 σ) := by
  intro x0 x1 y0 y1 σ
  unfold fX12_comesOut_b84
  refine hj_iconst (0 : Int32) dX12_comesOut_84 (by decide) ?_
  refine hj_callV (ci := 12) (M' := mX12_emit) (h' := 1) (As := [.int y1, .int ((0 : Int32))]) mfX12_emit mvX12_emit ⟨_, _, rfl⟩ mlX12_284 dX12_comesOut_85 (kX12_emit G _ _ _ _) (fun _ hr => cX12_emitk hr) ⟨Nat.le_of_ble_eq_true rfl, Nat.le_of_ble_eq_true rfl⟩ ⟨Nat.le_refl _, Nat.le_refl _⟩ rfl (Nat.le_of_ble_eq_true rfl) (fun _ σ7 _ => ?_)
  refine hj_goto 0 dX12_comesOut_88 (by decide) ?_
  refine hj_loc (lv' := [(0, .ref x0), (1, .int x1)]) [0, 1] rfl ?_
  exact hK0 _ _ _
def fX12_comesOut_b42 (K0 : Nat → Int32 → Sto → Option (Unit × Sto)) (x0 : Nat) (x1 : Int32) (x2 : Int32) (σ : Sto) : Option (Unit × Sto) := ((gI σ 12 x0 43).bind fun t5 => ((pV σ 12 x0 43 (.int ((t5 - ((1 : Int32)))))).bind fun σ6 => (if x2 = (8 : Int32) then (fX12_comesOut_b84 K0 x0 x1 x0 ((2 : Int32)) σ6) else (if x2 = (9 : Int32) then (fX12_comesOut_b84 K0 x0 x1 x0 ((3 : Int32)) σ6) else (if x2 = (10 : Int32) then (fX12_comesOut_b84 K0 x0 x1 x0 ((4 : Int32)) σ6) else (fX12_comesOut_b84 K0 x0 x1 x0 ((5 : Int32)) σ6))))))
set_option maxHeartbeats 2000000 in
theorem sX12_comesOut_b42 {G : GP} {n0 : Nat} {K0 : Nat → Int32 → Sto → Option (Unit × Sto)} (hK0 : ∀ (x0 : Nat) (x1 : Int32) (σ : Sto), Sim G mX12_comesOut 2 0 0 n0 jV 0 0 0 [(0, .ref x0), (1, .int x1)] [] σ (K0 x0 x1 σ)) : ∀ (x0 : Nat) (x1 : Int32) (x2 : Int32) (σ : Sto), Sim G mX12_comesOut 2 0 0 n0 jV 0 0 42 [(0, .ref x0), (1, .int x1), (2, .int x2)] [] σ (fX12_comesOut_b42 K0 x0 x1 x2 σ) := by
  intro x0 x1 x2 σ
  unfold fX12_comesOut_b42
  refine hj_aload_n 0 dX12_comesOut_42 rfl ?_
  refine hj_dup dX12_comesOut_43 rfl ?_
  refine hj_getI flX12_281 dX12_comesOut_44 (fun t5 _ => ?_)
  refine hj_iconst (1 : Int32) dX12_comesOut_47 (by decide) ?_
  refine hj_isub dX12_comesOut_48 ?_
  refine hj_put (fpX12_281 _) (fun _ => rfl) (fun _ => rfl) dX12_comesOut_49 (fun σ6 _ => ?_)
  refine hj_aload_n 0 dX12_comesOut_52 rfl ?_
  refine hj_iload_n 2 dX12_comesOut_53 rfl ?_
  refine hj_bipush (8 : Int32) dX12_comesOut_54 (by decide) ?_
  refine hj_icmp_ne 63 dX12_comesOut_56 (by decide) (fun _ => ?_) (fun _ => ?_)
  · refine hj_iload_n 2 dX12_comesOut_63 rfl ?_
    refine hj_bipush (9 : Int32) dX12_comesOut_64 (by decide) ?_
    refine hj_icmp_ne 73 dX12_comesOut_66 (by decide) (fun _ => ?_) (fun _ => ?_)
    · refine hj_iload_n 2 dX12_comesOut_73 rfl ?_
      refine hj_bipush (10 : Int32) dX12_comesOut_74 (by decide) ?_
      refine hj_icmp_ne 83 dX12_comesOut_76 (by decide) (fun _ => ?_) (fun _ => ?_)
      · refine hj_iconst (5 : Int32) dX12_comesOut_83 (by decide) ?_
        refine hj_loc (lv' := [(0, .ref x0), (1, .int x1)]) [0, 1] rfl ?_
        exact sX12_comesOut_b84 hK0 _ _ _ _ _
      · refine hj_iconst (4 : Int32) dX12_comesOut_79 (by decide) ?_
        refine hj_goto 84 dX12_comesOut_80 (by decide) ?_
        refine hj_loc (lv' := [(0, .ref x0), (1, .int x1)]) [0, 1] rfl ?_
        exact sX12_comesOut_b84 hK0 _ _ _ _ _
    · refine hj_iconst (3 : Int32) dX12_comesOut_69 (by decide) ?_
      refine hj_goto 84 dX12_comesOut_70 (by decide) ?_
      refine hj_loc (lv' := [(0, .ref x0), (1, .int x1)]) [0, 1] rfl ?_
      exact sX12_comesOut_b84 hK0 _ _ _ _ _
  · refine hj_iconst (2 : Int32) dX12_comesOut_59 (by decide) ?_
    refine hj_goto 84 dX12_comesOut_60 (by decide) ?_
    refine hj_loc (lv' := [(0, .ref x0), (1, .int x1)]) [0, 1] rfl ?_
    exact sX12_comesOut_b84 hK0 _ _ _ _ _
def fX12_comesOut_b0 : Nat → Nat → Int32 → Sto → Option (Unit × Sto)
  | 0, _, _, _ => none
  | n + 1, x0, x1, σ => ((gI σ 12 x0 43).bind fun t1 => (if t1 ≤ 0 then (some ((), σ)) else ((gR σ 12 x0 42).bind fun t2 => ((gI σ 12 x0 43).bind fun t3 => ((aI σ 2 t2 ((t3 - ((1 : Int32))))).bind fun t4 => (if t4 = (6 : Int32) then (some ((), σ)) else (if x1 = 0 then (fX12_comesOut_b42 (fX12_comesOut_b0 n) x0 x1 t4 σ) else (if t4 = (8 : Int32) then (some ((), σ)) else (if t4 = (9 : Int32) then (some ((), σ)) else (fX12_comesOut_b42 (fX12_comesOut_b0 n) x0 x1 t4 σ))))))))))
set_option maxHeartbeats 2000000 in
theorem sX12_comesOut_b0 {G : GP} {n0 : Nat} : ∀ (n : Nat) (x0 : Nat) (x1 : Int32) (σ : Sto), Sim G mX12_comesOut 2 0 0 n0 jV 0 0 0 [(0, .ref x0), (1, .int x1)] [] σ (fX12_comesOut_b0 n x0 x1 σ) := by
  intro n
  induction n with
  | zero => intros; rw [fX12_comesOut_b0]; exact hj_none
  | succ n ih =>
    intro x0 x1 σ
    rw [fX12_comesOut_b0]
    refine hj_aload_n 0 dX12_comesOut_0 rfl ?_
    refine hj_getI flX12_281 dX12_comesOut_1 (fun t1 _ => ?_)
    refine hj_if_le 91 dX12_comesOut_4 (by decide) (fun _ => ?_) (fun _ => ?_)
    · exact hj_vret dX12_comesOut_91 rfl rfl (Nat.le_refl _)
    · refine hj_aload_n 0 dX12_comesOut_7 rfl ?_
      refine hj_getR flX12_98 dX12_comesOut_8 (fun t2 _ => ?_)
      refine hj_aload_n 0 dX12_comesOut_11 rfl ?_
      refine hj_getI flX12_281 dX12_comesOut_12 (fun t3 _ => ?_)
      refine hj_iconst (1 : Int32) dX12_comesOut_15 (by decide) ?_
      refine hj_isub dX12_comesOut_16 ?_
      refine hj_iald dX12_comesOut_17 (fun t4 _ => ?_)
      refine hj_istore_n (lv' := [(0, .ref x0), (1, .int x1), (2, .int t4)]) dX12_comesOut_18 (by decide) [1, 2, 0] rfl ?_
      refine hj_iload_n 2 dX12_comesOut_19 rfl ?_
      refine hj_bipush (6 : Int32) dX12_comesOut_20 (by decide) ?_
      refine hj_icmp_eq 41 dX12_comesOut_22 (by decide) (fun _ => ?_) (fun _ => ?_)
      · exact hj_vret dX12_comesOut_41 rfl rfl (Nat.le_refl _)
      · refine hj_iload_n 1 dX12_comesOut_25 rfl ?_
        refine hj_if_eq 42 dX12_comesOut_26 (by decide) (fun _ => ?_) (fun _ => ?_)
        · refine hj_loc (lv' := [(0, .ref x0), (1, .int x1), (2, .int t4)]) [0, 1, 2] rfl ?_
          exact sX12_comesOut_b42 ih _ _ _ _
        · refine hj_iload_n 2 dX12_comesOut_29 rfl ?_
          refine hj_bipush (8 : Int32) dX12_comesOut_30 (by decide) ?_
          refine hj_icmp_eq 41 dX12_comesOut_32 (by decide) (fun _ => ?_) (fun _ => ?_)
          · exact hj_vret dX12_comesOut_41 rfl rfl (Nat.le_refl _)
          · refine hj_iload_n 2 dX12_comesOut_35 rfl ?_
            refine hj_bipush (9 : Int32) dX12_comesOut_36 (by decide) ?_
            refine hj_icmp_ne 42 dX12_comesOut_38 (by decide) (fun _ => ?_) (fun _ => ?_)
            · refine hj_loc (lv' := [(0, .ref x0), (1, .int x1), (2, .int t4)]) [0, 1, 2] rfl ?_
              exact sX12_comesOut_b42 ih _ _ _ _
            · exact hj_vret dX12_comesOut_41 rfl rfl (Nat.le_refl _)
def fX12_comesOut (a0 : Nat) (a1 : Int32) (σ : Sto) : Option (Unit × Sto) := ck σ 12 a0 (fX12_comesOut_b0 FU a0 a1 σ)
set_option maxHeartbeats 2000000 in
theorem kX12_comesOut (G : GP) (a0 : Nat) (a1 : Int32) (σ : Sto) : Me G mX12_comesOut 2 0 0 jV [.ref a0, .int a1] σ (fX12_comesOut a0 a1 σ) := by
  refine hs_me (lv := [(0, .ref a0), (1, .int a1)]) (plainFor_of_name (by decide +kernel)) (Nat.le_of_ble_eq_true rfl) rfl ?_
  unfold fX12_comesOut
  refine hj_ck ?_
  refine hj_loc (lv' := [(0, .ref a0), (1, .int a1)]) [0, 1] rfl ?_
  exact sX12_comesOut_b0 _ _ _ _
theorem cX12_comesOutk {a0 : Nat} {a1 : Int32} {σ : Sto} {r : Unit × Sto} (h : fX12_comesOut a0 a1 σ = some r) : ∃ fs, hs_o σ 12 a0 = some fs := (ck_of h).1
def fX12_unit_b88 (x0 : Nat) (σ : Sto) : Option (Unit × Sto) := (cb (fX12_fail x0 ((1 : Int32)) σ) fun _ σ1 => (some ((), σ1)))
set_option maxHeartbeats 2000000 in
theorem sX12_unit_b88 {G : GP} {n0 : Nat} : ∀ (x0 : Nat) (σ : Sto), Sim G mX12_unit 3 0 0 n0 jV 0 0 88 [(0, .ref x0)] [] σ (fX12_unit_b88 x0 σ) := by
  intro x0 σ
  unfold fX12_unit_b88
  refine hj_aload_n 0 dX12_unit_88 rfl ?_
  refine hj_iconst (1 : Int32) dX12_unit_89 (by decide) ?_
  refine hj_callV (ci := 12) (M' := mX12_fail) (h' := 1) (As := [.int ((1 : Int32))]) mfX12_fail mvX12_fail ⟨_, _, rfl⟩ mlX12_206 dX12_unit_90 (kX12_fail G _ _ _) (fun _ hr => cX12_failk hr) ⟨Nat.le_of_ble_eq_true rfl, Nat.le_of_ble_eq_true rfl⟩ ⟨Nat.le_refl _, Nat.le_refl _⟩ rfl (Nat.le_of_ble_eq_true rfl) (fun _ σ1 _ => ?_)
  exact hj_vret dX12_unit_93 rfl rfl (Nat.le_refl _)
def fX12_unit (a0 : Nat) (σ : Sto) : Option (Unit × Sto) := ck σ 12 a0 (cb (fX12_is a0 ((2 : Int32)) σ) fun r3 σ2 => (if r3 = 0 then ((gI σ2 12 a0 13).bind fun t4 => (if t4 = 0 then ((gR σ2 12 a0 5).bind fun t5 => ((gI σ2 12 a0 11).bind fun t6 => ((aI σ2 2 t5 t6).bind fun t7 => (if t7 < (31 : Int32) then (fX12_unit_b88 a0 σ2) else ((gR σ2 12 a0 5).bind fun t8 => ((gI σ2 12 a0 11).bind fun t9 => ((aI σ2 2 t8 t9).bind fun t10 => (if (35 : Int32) < t10 then (fX12_unit_b88 a0 σ2) else ((gR σ2 12 a0 5).bind fun t11 => ((gI σ2 12 a0 11).bind fun t12 => ((aI σ2 2 t11 t12).bind fun t13 => (cb (fX12_emit a0 ((1 : Int32)) ((t13 - ((31 : Int32)))) σ2) fun _ σ14 => (cb (fX12_goesOn a0 σ14) fun _ σ15 => (some ((), σ15))))))))))))))) else (fX12_unit_b88 a0 σ2))) else ((gR σ2 12 a0 7).bind fun t16 => ((gI σ2 12 a0 11).bind fun t17 => ((aI σ2 2 t16 t17).bind fun t18 => (cb (fX12_emit a0 ((0 : Int32)) t18 σ2) fun _ σ19 => (cb (fX12_goesOn a0 σ19) fun _ σ20 => (some ((), σ20)))))))))
set_option maxHeartbeats 2000000 in
theorem kX12_unit (G : GP) (a0 : Nat) (σ : Sto) : Me G mX12_unit 3 0 0 jV [.ref a0] σ (fX12_unit a0 σ) := by
  refine hs_me (lv := [(0, .ref a0)]) (plainFor_of_name (by decide +kernel)) (Nat.le_of_ble_eq_true rfl) rfl ?_
  unfold fX12_unit
  refine hj_ck ?_
  refine hj_aload_n 0 dX12_unit_0 rfl ?_
  refine hj_iconst (2 : Int32) dX12_unit_1 (by decide) ?_
  refine hj_callV (ci := 12) (M' := mX12_is) (h' := 1) (As := [.int ((2 : Int32))]) mfX12_is mvX12_is ⟨_, _, rfl⟩ mlX12_209 dX12_unit_2 (kX12_is G _ _ _) (fun _ hr => cX12_isk hr) ⟨Nat.le_of_ble_eq_true rfl, Nat.le_of_ble_eq_true rfl⟩ ⟨Nat.le_refl _, Nat.le_refl _⟩ rfl (Nat.le_of_ble_eq_true rfl) (fun r3 σ2 _ => ?_)
  refine hj_if_eq 29 dX12_unit_5 (by decide) (fun _ => ?_) (fun _ => ?_)
  · refine hj_aload_n 0 dX12_unit_29 rfl ?_
    refine hj_getI flX12_191 dX12_unit_30 (fun t4 _ => ?_)
    refine hj_if_ne 88 dX12_unit_33 (by decide) (fun _ => ?_) (fun _ => ?_)
    · refine hj_loc (lv' := [(0, .ref a0)]) [0] rfl ?_
      exact sX12_unit_b88 _ _
    · refine hj_aload_n 0 dX12_unit_36 rfl ?_
      refine hj_getR flX12_20 dX12_unit_37 (fun t5 _ => ?_)
      refine hj_aload_n 0 dX12_unit_40 rfl ?_
      refine hj_getI flX12_194 dX12_unit_41 (fun t6 _ => ?_)
      refine hj_iald dX12_unit_44 (fun t7 _ => ?_)
      refine hj_bipush (31 : Int32) dX12_unit_45 (by decide) ?_
      refine hj_icmp_lt 88 dX12_unit_47 (by decide) (fun _ => ?_) (fun _ => ?_)
      · refine hj_loc (lv' := [(0, .ref a0)]) [0] rfl ?_
        exact sX12_unit_b88 _ _
      · refine hj_aload_n 0 dX12_unit_50 rfl ?_
        refine hj_getR flX12_20 dX12_unit_51 (fun t8 _ => ?_)
        refine hj_aload_n 0 dX12_unit_54 rfl ?_
        refine hj_getI flX12_194 dX12_unit_55 (fun t9 _ => ?_)
        refine hj_iald dX12_unit_58 (fun t10 _ => ?_)
        refine hj_bipush (35 : Int32) dX12_unit_59 (by decide) ?_
        refine hj_icmp_gt 88 dX12_unit_61 (by decide) (fun _ => ?_) (fun _ => ?_)
        · refine hj_loc (lv' := [(0, .ref a0)]) [0] rfl ?_
          exact sX12_unit_b88 _ _
        · refine hj_aload_n 0 dX12_unit_64 rfl ?_
          refine hj_iconst (1 : Int32) dX12_unit_65 (by decide) ?_
          refine hj_aload_n 0 dX12_unit_66 rfl ?_
          refine hj_getR flX12_20 dX12_unit_67 (fun t11 _ => ?_)
          refine hj_aload_n 0 dX12_unit_70 rfl ?_
          refine hj_getI flX12_194 dX12_unit_71 (fun t12 _ => ?_)
          refine hj_iald dX12_unit_74 (fun t13 _ => ?_)
          refine hj_bipush (31 : Int32) dX12_unit_75 (by decide) ?_
          refine hj_isub dX12_unit_77 ?_
          refine hj_callV (ci := 12) (M' := mX12_emit) (h' := 1) (As := [.int ((1 : Int32)), .int ((t13 - ((31 : Int32))))]) mfX12_emit mvX12_emit ⟨_, _, rfl⟩ mlX12_284 dX12_unit_78 (kX12_emit G _ _ _ _) (fun _ hr => cX12_emitk hr) ⟨Nat.le_of_ble_eq_true rfl, Nat.le_of_ble_eq_true rfl⟩ ⟨Nat.le_refl _, Nat.le_refl _⟩ rfl (Nat.le_of_ble_eq_true rfl) (fun _ σ14 _ => ?_)
          refine hj_aload_n 0 dX12_unit_81 rfl ?_
          refine hj_callV (ci := 12) (M' := mX12_goesOn) (h' := 2) (As := []) mfX12_goesOn mvX12_goesOn ⟨_, _, rfl⟩ mlX12_212 dX12_unit_82 (kX12_goesOn G _ _) (fun _ hr => cX12_goesOnk hr) ⟨Nat.le_of_ble_eq_true rfl, Nat.le_of_ble_eq_true rfl⟩ ⟨Nat.le_refl _, Nat.le_refl _⟩ rfl (Nat.le_of_ble_eq_true rfl) (fun _ σ15 _ => ?_)
          refine hj_goto 93 dX12_unit_85 (by decide) ?_
          exact hj_vret dX12_unit_93 rfl rfl (Nat.le_refl _)
  · refine hj_aload_n 0 dX12_unit_8 rfl ?_
    refine hj_iconst (0 : Int32) dX12_unit_9 (by decide) ?_
    refine hj_aload_n 0 dX12_unit_10 rfl ?_
    refine hj_getR flX12_27 dX12_unit_11 (fun t16 _ => ?_)
    refine hj_aload_n 0 dX12_unit_14 rfl ?_
    refine hj_getI flX12_194 dX12_unit_15 (fun t17 _ => ?_)
    refine hj_iald dX12_unit_18 (fun t18 _ => ?_)
    refine hj_callV (ci := 12) (M' := mX12_emit) (h' := 1) (As := [.int ((0 : Int32)), .int t18]) mfX12_emit mvX12_emit ⟨_, _, rfl⟩ mlX12_284 dX12_unit_19 (kX12_emit G _ _ _ _) (fun _ hr => cX12_emitk hr) ⟨Nat.le_of_ble_eq_true rfl, Nat.le_of_ble_eq_true rfl⟩ ⟨Nat.le_refl _, Nat.le_refl _⟩ rfl (Nat.le_of_ble_eq_true rfl) (fun _ σ19 _ => ?_)
    refine hj_aload_n 0 dX12_unit_22 rfl ?_
    refine hj_callV (ci := 12) (M' := mX12_goesOn) (h' := 2) (As := []) mfX12_goesOn mvX12_goesOn ⟨_, _, rfl⟩ mlX12_212 dX12_unit_23 (kX12_goesOn G _ _) (fun _ hr => cX12_goesOnk hr) ⟨Nat.le_of_ble_eq_true rfl, Nat.le_of_ble_eq_true rfl⟩ ⟨Nat.le_refl _, Nat.le_refl _⟩ rfl (Nat.le_of_ble_eq_true rfl) (fun _ σ20 _ => ?_)
    refine hj_goto 93 dX12_unit_26 (by decide) ?_
    exact hj_vret dX12_unit_93 rfl rfl (Nat.le_refl _)
theorem cX12_unitk {a0 : Nat} {σ : Sto} {r : Unit × Sto} (h : fX12_unit a0 σ = some r) : ∃ fs, hs_o σ 12 a0 = some fs := (ck_of h).1
def fX12_expression_b204 (x0 : Nat) (σ : Sto) : Option (Unit × Sto) := (cb (fX12_comesOut x0 ((0 : Int32)) σ) fun _ σ21 => (some ((), σ21)))
set_option maxHeartbeats 2000000 in
theorem sX12_expression_b204 {G : GP} {n0 : Nat} : ∀ (x0 : Nat) (σ : Sto), Sim G mX12_expression 4 0 0 n0 jV 0 0 204 [(0, .ref x0)] [] σ (fX12_expression_b204 x0 σ) := by
  intro x0 σ
  unfold fX12_expression_b204
  refine hj_aload_n 0 dX12_expression_204 rfl ?_
  refine hj_iconst (0 : Int32) dX12_expression_205 (by decide) ?_
  refine hj_callV (ci := 12) (M' := mX12_comesOut) (h' := 2) (As := [.int ((0 : Int32))]) mfX12_comesOut mvX12_comesOut ⟨_, _, rfl⟩ mlX12_290 dX12_expression_206 (kX12_comesOut G _ _ _) (fun _ hr => cX12_comesOutk hr) ⟨Nat.le_of_ble_eq_true rfl, Nat.le_of_ble_eq_true rfl⟩ ⟨Nat.le_refl _, Nat.le_refl _⟩ rfl (Nat.le_of_ble_eq_true rfl) (fun _ σ21 _ => ?_)
  exact hj_vret dX12_expression_209 rfl rfl (Nat.le_refl _)
def fX12_expression_b191 (x0 : Nat) (x1 : Int32) (σ : Sto) : Option (Unit × Sto) := ((gI σ 12 x0 12).bind fun t48 => (if t48 ≤ x1 then (fX12_expression_b204 x0 σ) else (cb (fX12_fail x0 ((1 : Int32)) σ) fun _ σ49 => (fX12_expression_b204 x0 σ49))))
set_option maxHeartbeats 2000000 in
theorem sX12_expression_b191 {G : GP} {n0 : Nat} : ∀ (x0 : Nat) (x1 : Int32) (σ : Sto), Sim G mX12_expression 4 0 0 n0 jV 0 0 191 [(0, .ref x0), (1, .int x1)] [] σ (fX12_expression_b191 x0 x1 σ) := by
  intro x0 x1 σ
  unfold fX12_expression_b191
  refine hj_aload_n 0 dX12_expression_191 rfl ?_
  refine hj_getI flX12_218 dX12_expression_192 (fun t48 _ => ?_)
  refine hj_iload_n 1 dX12_expression_195 rfl ?_
  refine hj_icmp_le 204 dX12_expression_196 (by decide) (fun _ => ?_) (fun _ => ?_)
  · refine hj_loc (lv' := [(0, .ref x0)]) [0] rfl ?_
    exact sX12_expression_b204 _ _
  · refine hj_aload_n 0 dX12_expression_199 rfl ?_
    refine hj_iconst (1 : Int32) dX12_expression_200 (by decide) ?_
    refine hj_callV (ci := 12) (M' := mX12_fail) (h' := 1) (As := [.int ((1 : Int32))]) mfX12_fail mvX12_fail ⟨_, _, rfl⟩ mlX12_206 dX12_expression_201 (kX12_fail G _ _ _) (fun _ hr => cX12_failk hr) ⟨Nat.le_of_ble_eq_true rfl, Nat.le_of_ble_eq_true rfl⟩ ⟨Nat.le_refl _, Nat.le_refl _⟩ rfl (Nat.le_of_ble_eq_true rfl) (fun _ σ49 _ => ?_)
    refine hj_loc (lv' := [(0, .ref x0)]) [0] rfl ?_
    exact sX12_expression_b204 _ _
def fX12_expression_b234 (K12 : Nat → Int32 → Int32 → Sto → Option (Unit × Sto)) (x0 : Nat) (x1 : Int32) (x2 : Int32) (y0 : Nat) (y1 : Int32) (σ : Sto) : Option (Unit × Sto) := (cb (fX12_comesOut y0 y1 σ) fun _ σ10 => ((gR σ10 12 x0 42).bind fun t11 => ((gI σ10 12 x0 43).bind fun t12 => ((gR σ10 12 x0 5).bind fun t13 => ((gI σ10 12 x0 11).bind fun t14 => ((aI σ10 2 t13 t14).bind fun t15 => ((sI σ10 2 t11 t12 t15).bind fun σ16 => ((gI σ16 12 x0 43).bind fun t17 => ((pV σ16 12 x0 43 (.int ((t17 + ((1 : Int32)))))).bind fun σ18 => (cb (fX12_goesOn x0 σ18) fun _ σ19 => (K12 x0 x1 x2 σ19)))))))))))
set_option maxHeartbeats 2000000 in
theorem sX12_expression_b234 {G : GP} {n0 : Nat} {K12 : Nat → Int32 → Int32 → Sto → Option (Unit × Sto)} (hK12 : ∀ (x0 : Nat) (x1 : Int32) (x2 : Int32) (σ : Sto), Sim G mX12_expression 4 0 0 n0 jV 0 0 12 [(0, .ref x0), (1, .int x1), (2, .int x2)] [] σ (K12 x0 x1 x2 σ)) : ∀ (x0 : Nat) (x1 : Int32) (x2 : Int32) (y0 : Nat) (y1 : Int32) (σ : Sto), Sim G mX12_expression 4 0 0 n0 jV 0 0 234 [(0, .ref x0), (1, .int x1), (2, .int x2)] [.int y1, .ref y0] σ (fX12_expression_b234 K12 x0 x1 x2 y0 y1 σ) := by
  intro x0 x1 x2 y0 y1 σ
  unfold fX12_expression_b234
  refine hj_callV (ci := 12) (M' := mX12_comesOut) (h' := 2) (As := [.int y1]) mfX12_comesOut mvX12_comesOut ⟨_, _, rfl⟩ mlX12_290 dX12_expression_234 (kX12_comesOut G _ _ _) (fun _ hr => cX12_comesOutk hr) ⟨Nat.le_of_ble_eq_true rfl, Nat.le_of_ble_eq_true rfl⟩ ⟨Nat.le_refl _, Nat.le_refl _⟩ rfl (Nat.le_of_ble_eq_true rfl) (fun _ σ10 _ => ?_)
  refine hj_aload_n 0 dX12_expression_237 rfl ?_
  refine hj_getR flX12_98 dX12_expression_238 (fun t11 _ => ?_)
  refine hj_aload_n 0 dX12_expression_241 rfl ?_
  refine hj_getI flX12_281 dX12_expression_242 (fun t12 _ => ?_)
  refine hj_aload_n 0 dX12_expression_245 rfl ?_
  refine hj_getR flX12_20 dX12_expression_246 (fun t13 _ => ?_)
  refine hj_aload_n 0 dX12_expression_249 rfl ?_
  refine hj_getI flX12_194 dX12_expression_250 (fun t14 _ => ?_)
  refine hj_iald dX12_expression_253 (fun t15 _ => ?_)
  refine hj_iast dX12_expression_254 (fun σ16 _ => ?_)
  refine hj_aload_n 0 dX12_expression_255 rfl ?_
  refine hj_dup dX12_expression_256 rfl ?_
  refine hj_getI flX12_281 dX12_expression_257 (fun t17 _ => ?_)
  refine hj_iconst (1 : Int32) dX12_expression_260 (by decide) ?_
  refine hj_iadd dX12_expression_261 ?_
  refine hj_put (fpX12_281 _) (fun _ => rfl) (fun _ => rfl) dX12_expression_262 (fun σ18 _ => ?_)
  refine hj_aload_n 0 dX12_expression_265 rfl ?_
  refine hj_callV (ci := 12) (M' := mX12_goesOn) (h' := 2) (As := []) mfX12_goesOn mvX12_goesOn ⟨_, _, rfl⟩ mlX12_212 dX12_expression_266 (kX12_goesOn G _ _) (fun _ hr => cX12_goesOnk hr) ⟨Nat.le_of_ble_eq_true rfl, Nat.le_of_ble_eq_true rfl⟩ ⟨Nat.le_refl _, Nat.le_refl _⟩ rfl (Nat.le_of_ble_eq_true rfl) (fun _ σ19 _ => ?_)
  refine hj_goto 12 dX12_expression_269 (by decide) ?_
  refine hj_loc (lv' := [(0, .ref x0), (1, .int x1), (2, .int x2)]) [0, 1, 2] rfl ?_
  exact hK12 _ _ _ _
def fX12_expression_b229 (K12 : Nat → Int32 → Int32 → Sto → Option (Unit × Sto)) (x0 : Nat) (x1 : Int32) (x2 : Int32) (y0 : Nat) (σ : Sto) : Option (Unit × Sto) := (fX12_expression_b234 K12 x0 x1 x2 y0 ((1 : Int32)) σ)
set_option maxHeartbeats 2000000 in
theorem sX12_expression_b229 {G : GP} {n0 : Nat} {K12 : Nat → Int32 → Int32 → Sto → Option (Unit × Sto)} (hK12 : ∀ (x0 : Nat) (x1 : Int32) (x2 : Int32) (σ : Sto), Sim G mX12_expression 4 0 0 n0 jV 0 0 12 [(0, .ref x0), (1, .int x1), (2, .int x2)] [] σ (K12 x0 x1 x2 σ)) : ∀ (x0 : Nat) (x1 : Int32) (x2 : Int32) (y0 : Nat) (σ : Sto), Sim G mX12_expression 4 0 0 n0 jV 0 0 229 [(0, .ref x0), (1, .int x1), (2, .int x2)] [.ref y0] σ (fX12_expression_b229 K12 x0 x1 x2 y0 σ) := by
  intro x0 x1 x2 y0 σ
  unfold fX12_expression_b229
  refine hj_iconst (1 : Int32) dX12_expression_229 (by decide) ?_
  refine hj_goto 234 dX12_expression_230 (by decide) ?_
  refine hj_loc (lv' := [(0, .ref x0), (1, .int x1), (2, .int x2)]) [0, 1, 2] rfl ?_
  exact sX12_expression_b234 hK12 _ _ _ _ _ _
def fX12_expression_b186 (K12 : Nat → Int32 → Int32 → Sto → Option (Unit × Sto)) (x0 : Nat) (x1 : Int32) (y0 : Int32) (σ : Sto) : Option (Unit × Sto) := (if y0 = 0 then (fX12_expression_b191 x0 x1 σ) else (cb (fX12_is x0 ((10 : Int32)) σ) fun r45 σ44 => (if r45 = 0 then (cb (fX12_is x0 ((15 : Int32)) σ44) fun r47 σ46 => (if r47 = 0 then (fX12_expression_b234 K12 x0 x1 y0 x0 ((0 : Int32)) σ46) else (fX12_expression_b229 K12 x0 x1 y0 x0 σ46))) else (fX12_expression_b229 K12 x0 x1 y0 x0 σ44))))
set_option maxHeartbeats 2000000 in
theorem sX12_expression_b186 {G : GP} {n0 : Nat} {K12 : Nat → Int32 → Int32 → Sto → Option (Unit × Sto)} (hK12 : ∀ (x0 : Nat) (x1 : Int32) (x2 : Int32) (σ : Sto), Sim G mX12_expression 4 0 0 n0 jV 0 0 12 [(0, .ref x0), (1, .int x1), (2, .int x2)] [] σ (K12 x0 x1 x2 σ)) : ∀ (x0 : Nat) (x1 : Int32) (y0 : Int32) (σ : Sto), Sim G mX12_expression 4 0 0 n0 jV 0 0 186 [(0, .ref x0), (1, .int x1)] [.int y0] σ (fX12_expression_b186 K12 x0 x1 y0 σ) := by
  intro x0 x1 y0 σ
  unfold fX12_expression_b186
  refine hj_istore_n (lv' := [(0, .ref x0), (1, .int x1), (2, .int y0)]) dX12_expression_186 (by decide) [1, 2, 0] rfl ?_
  refine hj_iload_n 2 dX12_expression_187 rfl ?_
  refine hj_if_ne 210 dX12_expression_188 (by decide) (fun _ => ?_) (fun _ => ?_)
  · refine hj_aload_n 0 dX12_expression_210 rfl ?_
    refine hj_aload_n 0 dX12_expression_211 rfl ?_
    refine hj_bipush (10 : Int32) dX12_expression_212 (by decide) ?_
    refine hj_callV (ci := 12) (M' := mX12_is) (h' := 1) (As := [.int ((10 : Int32))]) mfX12_is mvX12_is ⟨_, _, rfl⟩ mlX12_209 dX12_expression_214 (kX12_is G _ _ _) (fun _ hr => cX12_isk hr) ⟨Nat.le_of_ble_eq_true rfl, Nat.le_of_ble_eq_true rfl⟩ ⟨Nat.le_refl _, Nat.le_refl _⟩ rfl (Nat.le_of_ble_eq_true rfl) (fun r45 σ44 _ => ?_)
    refine hj_if_ne 229 dX12_expression_217 (by decide) (fun _ => ?_) (fun _ => ?_)
    · refine hj_loc (lv' := [(0, .ref x0), (1, .int x1), (2, .int y0)]) [0, 1, 2] rfl ?_
      exact sX12_expression_b229 hK12 _ _ _ _ _
    · refine hj_aload_n 0 dX12_expression_220 rfl ?_
      refine hj_bipush (15 : Int32) dX12_expression_221 (by decide) ?_
      refine hj_callV (ci := 12) (M' := mX12_is) (h' := 1) (As := [.int ((15 : Int32))]) mfX12_is mvX12_is ⟨_, _, rfl⟩ mlX12_209 dX12_expression_223 (kX12_is G _ _ _) (fun _ hr => cX12_isk hr) ⟨Nat.le_of_ble_eq_true rfl, Nat.le_of_ble_eq_true rfl⟩ ⟨Nat.le_refl _, Nat.le_refl _⟩ rfl (Nat.le_of_ble_eq_true rfl) (fun r47 σ46 _ => ?_)
      refine hj_if_eq 233 dX12_expression_226 (by decide) (fun _ => ?_) (fun _ => ?_)
      · refine hj_iconst (0 : Int32) dX12_expression_233 (by decide) ?_
        refine hj_loc (lv' := [(0, .ref x0), (1, .int x1), (2, .int y0)]) [0, 1, 2] rfl ?_
        exact sX12_expression_b234 hK12 _ _ _ _ _ _
      · refine hj_loc (lv' := [(0, .ref x0), (1, .int x1), (2, .int y0)]) [0, 1, 2] rfl ?_
        exact sX12_expression_b229 hK12 _ _ _ _ _
  · refine hj_loc (lv' := [(0, .ref x0), (1, .int x1)]) [0, 1] rfl ?_
    exact sX12_expression_b191 _ _ _
def fX12_expression_b181 (K12 : Nat → Int32 → Int32 → Sto → Option (Unit × Sto)) (x0 : Nat) (x1 : Int32) (σ : Sto) : Option (Unit × Sto) := (fX12_expression_b186 K12 x0 x1 ((1 : Int32)) σ)
set_option maxHeartbeats 2000000 in
theorem sX12_expression_b181 {G : GP} {n0 : Nat} {K12 : Nat → Int32 → Int32 → Sto → Option (Unit × Sto)} (hK12 : ∀ (x0 : Nat) (x1 : Int32) (x2 : Int32) (σ : Sto), Sim G mX12_expression 4 0 0 n0 jV 0 0 12 [(0, .ref x0), (1, .int x1), (2, .int x2)] [] σ (K12 x0 x1 x2 σ)) : ∀ (x0 : Nat) (x1 : Int32) (σ : Sto), Sim G mX12_expression 4 0 0 n0 jV 0 0 181 [(0, .ref x0), (1, .int x1)] [] σ (fX12_expression_b181 K12 x0 x1 σ) := by
  intro x0 x1 σ
  unfold fX12_expression_b181
  refine hj_iconst (1 : Int32) dX12_expression_181 (by decide) ?_
  refine hj_goto 186 dX12_expression_182 (by decide) ?_
  refine hj_loc (lv' := [(0, .ref x0), (1, .int x1)]) [0, 1] rfl ?_
  exact sX12_expression_b186 hK12 _ _ _ _
def fX12_expression_b145 (K12 : Nat → Int32 → Int32 → Sto → Option (Unit × Sto)) (x0 : Nat) (x1 : Int32) (σ : Sto) : Option (Unit × Sto) := (cb (fX12_is x0 ((8 : Int32)) σ) fun r31 σ30 => (if r31 = 0 then (cb (fX12_is x0 ((9 : Int32)) σ30) fun r33 σ32 => (if r33 = 0 then (cb (fX12_is x0 ((10 : Int32)) σ32) fun r35 σ34 => (if r35 = 0 then (cb (fX12_is x0 ((15 : Int32)) σ34) fun r37 σ36 => (if r37 = 0 then (fX12_expression_b186 K12 x0 x1 ((0 : Int32)) σ36) else (fX12_expression_b181 K12 x0 x1 σ36))) else (fX12_expression_b181 K12 x0 x1 σ34))) else (fX12_expression_b181 K12 x0 x1 σ32))) else (fX12_expression_b181 K12 x0 x1 σ30)))
set_option maxHeartbeats 2000000 in
theorem sX12_expression_b145 {G : GP} {n0 : Nat} {K12 : Nat → Int32 → Int32 → Sto → Option (Unit × Sto)} (hK12 : ∀ (x0 : Nat) (x1 : Int32) (x2 : Int32) (σ : Sto), Sim G mX12_expression 4 0 0 n0 jV 0 0 12 [(0, .ref x0), (1, .int x1), (2, .int x2)] [] σ (K12 x0 x1 x2 σ)) : ∀ (x0 : Nat) (x1 : Int32) (σ : Sto), Sim G mX12_expression 4 0 0 n0 jV 0 0 145 [(0, .ref x0), (1, .int x1)] [] σ (fX12_expression_b145 K12 x0 x1 σ) := by
  intro x0 x1 σ
  unfold fX12_expression_b145
  refine hj_aload_n 0 dX12_expression_145 rfl ?_
  refine hj_bipush (8 : Int32) dX12_expression_146 (by decide) ?_
  refine hj_callV (ci := 12) (M' := mX12_is) (h' := 1) (As := [.int ((8 : Int32))]) mfX12_is mvX12_is ⟨_, _, rfl⟩ mlX12_209 dX12_expression_148 (kX12_is G _ _ _) (fun _ hr => cX12_isk hr) ⟨Nat.le_of_ble_eq_true rfl, Nat.le_of_ble_eq_true rfl⟩ ⟨Nat.le_refl _, Nat.le_refl _⟩ rfl (Nat.le_of_ble_eq_true rfl) (fun r31 σ30 _ => ?_)
  refine hj_if_ne 181 dX12_expression_151 (by decide) (fun _ => ?_) (fun _ => ?_)
  · refine hj_loc (lv' := [(0, .ref x0), (1, .int x1)]) [0, 1] rfl ?_
    exact sX12_expression_b181 hK12 _ _ _
  · refine hj_aload_n 0 dX12_expression_154 rfl ?_
    refine hj_bipush (9 : Int32) dX12_expression_155 (by decide) ?_
    refine hj_callV (ci := 12) (M' := mX12_is) (h' := 1) (As := [.int ((9 : Int32))]) mfX12_is mvX12_is ⟨_, _, rfl⟩ mlX12_209 dX12_expression_157 (kX12_is G _ _ _) (fun _ hr => cX12_isk hr) ⟨Nat.le_of_ble_eq_true rfl, Nat.le_of_ble_eq_true rfl⟩ ⟨Nat.le_refl _, Nat.le_refl _⟩ rfl (Nat.le_of_ble_eq_true rfl) (fun r33 σ32 _ => ?_)
    refine hj_if_ne 181 dX12_expression_160 (by decide) (fun _ => ?_) (fun _ => ?_)
    · refine hj_loc (lv' := [(0, .ref x0), (1, .int x1)]) [0, 1] rfl ?_
      exact sX12_expression_b181 hK12 _ _ _
    · refine hj_aload_n 0 dX12_expression_163 rfl ?_
      refine hj_bipush (10 : Int32) dX12_expression_164 (by decide) ?_
      refine hj_callV (ci := 12) (M' := mX12_is) (h' := 1) (As := [.int ((10 : Int32))]) mfX12_is mvX12_is ⟨_, _, rfl⟩ mlX12_209 dX12_expression_166 (kX12_is G _ _ _) (fun _ hr => cX12_isk hr) ⟨Nat.le_of_ble_eq_true rfl, Nat.le_of_ble_eq_true rfl⟩ ⟨Nat.le_refl _, Nat.le_refl _⟩ rfl (Nat.le_of_ble_eq_true rfl) (fun r35 σ34 _ => ?_)
      refine hj_if_ne 181 dX12_expression_169 (by decide) (fun _ => ?_) (fun _ => ?_)
      · refine hj_loc (lv' := [(0, .ref x0), (1, .int x1)]) [0, 1] rfl ?_
        exact sX12_expression_b181 hK12 _ _ _
      · refine hj_aload_n 0 dX12_expression_172 rfl ?_
        refine hj_bipush (15 : Int32) dX12_expression_173 (by decide) ?_
        refine hj_callV (ci := 12) (M' := mX12_is) (h' := 1) (As := [.int ((15 : Int32))]) mfX12_is mvX12_is ⟨_, _, rfl⟩ mlX12_209 dX12_expression_175 (kX12_is G _ _ _) (fun _ hr => cX12_isk hr) ⟨Nat.le_of_ble_eq_true rfl, Nat.le_of_ble_eq_true rfl⟩ ⟨Nat.le_refl _, Nat.le_refl _⟩ rfl (Nat.le_of_ble_eq_true rfl) (fun r37 σ36 _ => ?_)
        refine hj_if_eq 185 dX12_expression_178 (by decide) (fun _ => ?_) (fun _ => ?_)
        · refine hj_iconst (0 : Int32) dX12_expression_185 (by decide) ?_
          refine hj_loc (lv' := [(0, .ref x0), (1, .int x1)]) [0, 1] rfl ?_
          exact sX12_expression_b186 hK12 _ _ _ _
        · refine hj_loc (lv' := [(0, .ref x0), (1, .int x1)]) [0, 1] rfl ?_
          exact sX12_expression_b181 hK12 _ _ _
def fX12_expression_b96 (K12 : Nat → Int32 → Int32 → Sto → Option (Unit × Sto)) : Nat → Nat → Int32 → Sto → Option (Unit × Sto)
  | 0, _, _, _ => none
  | n + 1, x0, x1, σ => (cb (fX12_is x0 ((7 : Int32)) σ) fun r2 σ1 => (if r2 = 0 then (fX12_expression_b145 K12 x0 x1 σ1) else ((gI σ1 12 x0 12).bind fun t3 => (if t3 ≤ x1 then (fX12_expression_b145 K12 x0 x1 σ1) else (cb (fX12_comesOut x0 ((0 : Int32)) σ1) fun _ σ4 => ((gI σ4 12 x0 43).bind fun t5 => ((pV σ4 12 x0 43 (.int ((t5 - ((1 : Int32)))))).bind fun σ6 => ((gI σ6 12 x0 12).bind fun t7 => ((pV σ6 12 x0 12 (.int ((t7 - ((1 : Int32)))))).bind fun σ8 => (cb (fX12_goesOn x0 σ8) fun _ σ9 => (fX12_expression_b96 K12 n x0 x1 σ9)))))))))))
set_option maxHeartbeats 2000000 in
theorem sX12_expression_b96 {G : GP} {n0 : Nat} {K12 : Nat → Int32 → Int32 → Sto → Option (Unit × Sto)} (hK12 : ∀ (x0 : Nat) (x1 : Int32) (x2 : Int32) (σ : Sto), Sim G mX12_expression 4 0 0 n0 jV 0 0 12 [(0, .ref x0), (1, .int x1), (2, .int x2)] [] σ (K12 x0 x1 x2 σ)) : ∀ (n : Nat) (x0 : Nat) (x1 : Int32) (σ : Sto), Sim G mX12_expression 4 0 0 n0 jV 0 0 96 [(0, .ref x0), (1, .int x1)] [] σ (fX12_expression_b96 K12 n x0 x1 σ) := by
  intro n
  induction n with
  | zero => intros; rw [fX12_expression_b96]; exact hj_none
  | succ n ih =>
    intro x0 x1 σ
    rw [fX12_expression_b96]
    refine hj_aload_n 0 dX12_expression_96 rfl ?_
    refine hj_bipush (7 : Int32) dX12_expression_97 (by decide) ?_
    refine hj_callV (ci := 12) (M' := mX12_is) (h' := 1) (As := [.int ((7 : Int32))]) mfX12_is mvX12_is ⟨_, _, rfl⟩ mlX12_209 dX12_expression_99 (kX12_is G _ _ _) (fun _ hr => cX12_isk hr) ⟨Nat.le_of_ble_eq_true rfl, Nat.le_of_ble_eq_true rfl⟩ ⟨Nat.le_refl _, Nat.le_refl _⟩ rfl (Nat.le_of_ble_eq_true rfl) (fun r2 σ1 _ => ?_)
    refine hj_if_eq 145 dX12_expression_102 (by decide) (fun _ => ?_) (fun _ => ?_)
    · refine hj_loc (lv' := [(0, .ref x0), (1, .int x1)]) [0, 1] rfl ?_
      exact sX12_expression_b145 hK12 _ _ _
    · refine hj_aload_n 0 dX12_expression_105 rfl ?_
      refine hj_getI flX12_218 dX12_expression_106 (fun t3 _ => ?_)
      refine hj_iload_n 1 dX12_expression_109 rfl ?_
      refine hj_icmp_le 145 dX12_expression_110 (by decide) (fun _ => ?_) (fun _ => ?_)
      · refine hj_loc (lv' := [(0, .ref x0), (1, .int x1)]) [0, 1] rfl ?_
        exact sX12_expression_b145 hK12 _ _ _
      · refine hj_aload_n 0 dX12_expression_113 rfl ?_
        refine hj_iconst (0 : Int32) dX12_expression_114 (by decide) ?_
        refine hj_callV (ci := 12) (M' := mX12_comesOut) (h' := 2) (As := [.int ((0 : Int32))]) mfX12_comesOut mvX12_comesOut ⟨_, _, rfl⟩ mlX12_290 dX12_expression_115 (kX12_comesOut G _ _ _) (fun _ hr => cX12_comesOutk hr) ⟨Nat.le_of_ble_eq_true rfl, Nat.le_of_ble_eq_true rfl⟩ ⟨Nat.le_refl _, Nat.le_refl _⟩ rfl (Nat.le_of_ble_eq_true rfl) (fun _ σ4 _ => ?_)
        refine hj_aload_n 0 dX12_expression_118 rfl ?_
        refine hj_dup dX12_expression_119 rfl ?_
        refine hj_getI flX12_281 dX12_expression_120 (fun t5 _ => ?_)
        refine hj_iconst (1 : Int32) dX12_expression_123 (by decide) ?_
        refine hj_isub dX12_expression_124 ?_
        refine hj_put (fpX12_281 _) (fun _ => rfl) (fun _ => rfl) dX12_expression_125 (fun σ6 _ => ?_)
        refine hj_aload_n 0 dX12_expression_128 rfl ?_
        refine hj_dup dX12_expression_129 rfl ?_
        refine hj_getI flX12_218 dX12_expression_130 (fun t7 _ => ?_)
        refine hj_iconst (1 : Int32) dX12_expression_133 (by decide) ?_
        refine hj_isub dX12_expression_134 ?_
        refine hj_put (fpX12_218 _) (fun _ => rfl) (fun _ => rfl) dX12_expression_135 (fun σ8 _ => ?_)
        refine hj_aload_n 0 dX12_expression_138 rfl ?_
        refine hj_callV (ci := 12) (M' := mX12_goesOn) (h' := 2) (As := []) mfX12_goesOn mvX12_goesOn ⟨_, _, rfl⟩ mlX12_212 dX12_expression_139 (kX12_goesOn G _ _) (fun _ hr => cX12_goesOnk hr) ⟨Nat.le_of_ble_eq_true rfl, Nat.le_of_ble_eq_true rfl⟩ ⟨Nat.le_refl _, Nat.le_refl _⟩ rfl (Nat.le_of_ble_eq_true rfl) (fun _ σ9 _ => ?_)
        refine hj_goto 96 dX12_expression_142 (by decide) ?_
        refine hj_loc (lv' := [(0, .ref x0), (1, .int x1)]) [0, 1] rfl ?_
        exact ih _ _ _
def fX12_expression_b84 (K12 : Nat → Int32 → Int32 → Sto → Option (Unit × Sto)) (x0 : Nat) (x1 : Int32) (σ : Sto) : Option (Unit × Sto) := (cb (fX12_unit x0 σ) fun _ σ38 => ((gI σ38 12 x0 13).bind fun t39 => (if t39 ≤ 0 then (fX12_expression_b96 K12 FU x0 x1 σ38) else (some ((), σ38)))))
set_option maxHeartbeats 2000000 in
theorem sX12_expression_b84 {G : GP} {n0 : Nat} {K12 : Nat → Int32 → Int32 → Sto → Option (Unit × Sto)} (hK12 : ∀ (x0 : Nat) (x1 : Int32) (x2 : Int32) (σ : Sto), Sim G mX12_expression 4 0 0 n0 jV 0 0 12 [(0, .ref x0), (1, .int x1), (2, .int x2)] [] σ (K12 x0 x1 x2 σ)) : ∀ (x0 : Nat) (x1 : Int32) (σ : Sto), Sim G mX12_expression 4 0 0 n0 jV 0 0 84 [(0, .ref x0), (1, .int x1)] [] σ (fX12_expression_b84 K12 x0 x1 σ) := by
  intro x0 x1 σ
  unfold fX12_expression_b84
  refine hj_aload_n 0 dX12_expression_84 rfl ?_
  refine hj_callV (ci := 12) (M' := mX12_unit) (h' := 3) (As := []) mfX12_unit mvX12_unit ⟨_, _, rfl⟩ mlX12_287 dX12_expression_85 (kX12_unit G _ _) (fun _ hr => cX12_unitk hr) ⟨Nat.le_of_ble_eq_true rfl, Nat.le_of_ble_eq_true rfl⟩ ⟨Nat.le_refl _, Nat.le_refl _⟩ rfl (Nat.le_of_ble_eq_true rfl) (fun _ σ38 _ => ?_)
  refine hj_aload_n 0 dX12_expression_88 rfl ?_
  refine hj_getI flX12_191 dX12_expression_89 (fun t39 _ => ?_)
  refine hj_if_le 96 dX12_expression_92 (by decide) (fun _ => ?_) (fun _ => ?_)
  · refine hj_loc (lv' := [(0, .ref x0), (1, .int x1)]) [0, 1] rfl ?_
    exact sX12_expression_b96 hK12 _ _ _ _
  · exact hj_vret dX12_expression_95 rfl rfl (Nat.le_refl _)
def fX12_expression_b46 (K12 : Nat → Int32 → Int32 → Sto → Option (Unit × Sto)) (K23 : Nat → Int32 → Sto → Option (Unit × Sto)) (x0 : Nat) (x1 : Int32) (σ : Sto) : Option (Unit × Sto) := ((gI σ 12 x0 12).bind fun t22 => ((pV σ 12 x0 12 (.int ((t22 + ((1 : Int32)))))).bind fun σ23 => (cb (fX12_goesOn x0 σ23) fun _ σ24 => ((gR σ24 12 x0 42).bind fun t25 => ((gI σ24 12 x0 43).bind fun t26 => ((sI σ24 2 t25 t26 ((6 : Int32))).bind fun σ27 => ((gI σ27 12 x0 43).bind fun t28 => ((pV σ27 12 x0 43 (.int ((t28 + ((1 : Int32)))))).bind fun σ29 => (K23 x0 x1 σ29)))))))))
set_option maxHeartbeats 2000000 in
theorem sX12_expression_b46 {G : GP} {n0 : Nat} {K12 : Nat → Int32 → Int32 → Sto → Option (Unit × Sto)} (hK12 : ∀ (x0 : Nat) (x1 : Int32) (x2 : Int32) (σ : Sto), Sim G mX12_expression 4 0 0 n0 jV 0 0 12 [(0, .ref x0), (1, .int x1), (2, .int x2)] [] σ (K12 x0 x1 x2 σ)) {K23 : Nat → Int32 → Sto → Option (Unit × Sto)} (hK23 : ∀ (x0 : Nat) (x1 : Int32) (σ : Sto), Sim G mX12_expression 4 0 0 n0 jV 0 0 23 [(0, .ref x0), (1, .int x1)] [] σ (K23 x0 x1 σ)) : ∀ (x0 : Nat) (x1 : Int32) (σ : Sto), Sim G mX12_expression 4 0 0 n0 jV 0 0 46 [(0, .ref x0), (1, .int x1)] [] σ (fX12_expression_b46 K12 K23 x0 x1 σ) := by
  intro x0 x1 σ
  unfold fX12_expression_b46
  refine hj_aload_n 0 dX12_expression_46 rfl ?_
  refine hj_dup dX12_expression_47 rfl ?_
  refine hj_getI flX12_218 dX12_expression_48 (fun t22 _ => ?_)
  refine hj_iconst (1 : Int32) dX12_expression_51 (by decide) ?_
  refine hj_iadd dX12_expression_52 ?_
  refine hj_put (fpX12_218 _) (fun _ => rfl) (fun _ => rfl) dX12_expression_53 (fun σ23 _ => ?_)
  refine hj_aload_n 0 dX12_expression_56 rfl ?_
  refine hj_callV (ci := 12) (M' := mX12_goesOn) (h' := 2) (As := []) mfX12_goesOn mvX12_goesOn ⟨_, _, rfl⟩ mlX12_212 dX12_expression_57 (kX12_goesOn G _ _) (fun _ hr => cX12_goesOnk hr) ⟨Nat.le_of_ble_eq_true rfl, Nat.le_of_ble_eq_true rfl⟩ ⟨Nat.le_refl _, Nat.le_refl _⟩ rfl (Nat.le_of_ble_eq_true rfl) (fun _ σ24 _ => ?_)
  refine hj_aload_n 0 dX12_expression_60 rfl ?_
  refine hj_getR flX12_98 dX12_expression_61 (fun t25 _ => ?_)
  refine hj_aload_n 0 dX12_expression_64 rfl ?_
  refine hj_getI flX12_281 dX12_expression_65 (fun t26 _ => ?_)
  refine hj_bipush (6 : Int32) dX12_expression_68 (by decide) ?_
  refine hj_iast dX12_expression_70 (fun σ27 _ => ?_)
  refine hj_aload_n 0 dX12_expression_71 rfl ?_
  refine hj_dup dX12_expression_72 rfl ?_
  refine hj_getI flX12_281 dX12_expression_73 (fun t28 _ => ?_)
  refine hj_iconst (1 : Int32) dX12_expression_76 (by decide) ?_
  refine hj_iadd dX12_expression_77 ?_
  refine hj_put (fpX12_281 _) (fun _ => rfl) (fun _ => rfl) dX12_expression_78 (fun σ29 _ => ?_)
  refine hj_goto 23 dX12_expression_81 (by decide) ?_
  refine hj_loc (lv' := [(0, .ref x0), (1, .int x1)]) [0, 1] rfl ?_
  exact hK23 _ _ _
def fX12_expression_b23 (K12 : Nat → Int32 → Int32 → Sto → Option (Unit × Sto)) : Nat → Nat → Int32 → Sto → Option (Unit × Sto)
  | 0, _, _, _ => none
  | n + 1, x0, x1, σ => (cb (fX12_is x0 ((6 : Int32)) σ) fun r41 σ40 => (if r41 = 0 then (fX12_expression_b84 K12 x0 x1 σ40) else ((gI σ40 12 x0 12).bind fun t42 => (if t42 = (6 : Int32) then (cb (fX12_fail x0 ((2 : Int32)) σ40) fun _ σ43 => (fX12_expression_b46 K12 (fX12_expression_b23 K12 n) x0 x1 σ43)) else (fX12_expression_b46 K12 (fX12_expression_b23 K12 n) x0 x1 σ40)))))
set_option maxHeartbeats 2000000 in
theorem sX12_expression_b23 {G : GP} {n0 : Nat} {K12 : Nat → Int32 → Int32 → Sto → Option (Unit × Sto)} (hK12 : ∀ (x0 : Nat) (x1 : Int32) (x2 : Int32) (σ : Sto), Sim G mX12_expression 4 0 0 n0 jV 0 0 12 [(0, .ref x0), (1, .int x1), (2, .int x2)] [] σ (K12 x0 x1 x2 σ)) : ∀ (n : Nat) (x0 : Nat) (x1 : Int32) (σ : Sto), Sim G mX12_expression 4 0 0 n0 jV 0 0 23 [(0, .ref x0), (1, .int x1)] [] σ (fX12_expression_b23 K12 n x0 x1 σ) := by
  intro n
  induction n with
  | zero => intros; rw [fX12_expression_b23]; exact hj_none
  | succ n ih =>
    intro x0 x1 σ
    rw [fX12_expression_b23]
    refine hj_aload_n 0 dX12_expression_23 rfl ?_
    refine hj_bipush (6 : Int32) dX12_expression_24 (by decide) ?_
    refine hj_callV (ci := 12) (M' := mX12_is) (h' := 1) (As := [.int ((6 : Int32))]) mfX12_is mvX12_is ⟨_, _, rfl⟩ mlX12_209 dX12_expression_26 (kX12_is G _ _ _) (fun _ hr => cX12_isk hr) ⟨Nat.le_of_ble_eq_true rfl, Nat.le_of_ble_eq_true rfl⟩ ⟨Nat.le_refl _, Nat.le_refl _⟩ rfl (Nat.le_of_ble_eq_true rfl) (fun r41 σ40 _ => ?_)
    refine hj_if_eq 84 dX12_expression_29 (by decide) (fun _ => ?_) (fun _ => ?_)
    · refine hj_loc (lv' := [(0, .ref x0), (1, .int x1)]) [0, 1] rfl ?_
      exact sX12_expression_b84 hK12 _ _ _
    · refine hj_aload_n 0 dX12_expression_32 rfl ?_
      refine hj_getI flX12_218 dX12_expression_33 (fun t42 _ => ?_)
      refine hj_bipush (6 : Int32) dX12_expression_36 (by decide) ?_
      refine hj_icmp_ne 46 dX12_expression_38 (by decide) (fun _ => ?_) (fun _ => ?_)
      · refine hj_loc (lv' := [(0, .ref x0), (1, .int x1)]) [0, 1] rfl ?_
        exact sX12_expression_b46 hK12 ih _ _ _
      · refine hj_aload_n 0 dX12_expression_41 rfl ?_
        refine hj_iconst (2 : Int32) dX12_expression_42 (by decide) ?_
        refine hj_callV (ci := 12) (M' := mX12_fail) (h' := 1) (As := [.int ((2 : Int32))]) mfX12_fail mvX12_fail ⟨_, _, rfl⟩ mlX12_206 dX12_expression_43 (kX12_fail G _ _ _) (fun _ hr => cX12_failk hr) ⟨Nat.le_of_ble_eq_true rfl, Nat.le_of_ble_eq_true rfl⟩ ⟨Nat.le_refl _, Nat.le_refl _⟩ rfl (Nat.le_of_ble_eq_true rfl) (fun _ σ43 _ => ?_)
        refine hj_loc (lv' := [(0, .ref x0), (1, .int x1)]) [0, 1] rfl ?_
        exact sX12_expression_b46 hK12 ih _ _ _
def fX12_expression_b12 : Nat → Nat → Int32 → Int32 → Sto → Option (Unit × Sto)
  | 0, _, _, _, _ => none
  | n + 1, x0, x1, x2, σ => (if x2 = 0 then (some ((), σ)) else ((gI σ 12 x0 13).bind fun t20 => (if t20 = 0 then (fX12_expression_b23 (fX12_expression_b12 n) FU x0 x1 σ) else (some ((), σ)))))
set_option maxHeartbeats 2000000 in
theorem sX12_expression_b12 {G : GP} {n0 : Nat} : ∀ (n : Nat) (x0 : Nat) (x1 : Int32) (x2 : Int32) (σ : Sto), Sim G mX12_expression 4 0 0 n0 jV 0 0 12 [(0, .ref x0), (1, .int x1), (2, .int x2)] [] σ (fX12_expression_b12 n x0 x1 x2 σ) := by
  intro n
  induction n with
  | zero => intros; rw [fX12_expression_b12]; exact hj_none
  | succ n ih =>
    intro x0 x1 x2 σ
    rw [fX12_expression_b12]
    refine hj_iload_n 2 dX12_expression_12 rfl ?_
    refine hj_if_eq 272 dX12_expression_13 (by decide) (fun _ => ?_) (fun _ => ?_)
    · exact hj_vret dX12_expression_272 rfl rfl (Nat.le_refl _)
    · refine hj_aload_n 0 dX12_expression_16 rfl ?_
      refine hj_getI flX12_191 dX12_expression_17 (fun t20 _ => ?_)
      refine hj_if_ne 272 dX12_expression_20 (by decide) (fun _ => ?_) (fun _ => ?_)
      · exact hj_vret dX12_expression_272 rfl rfl (Nat.le_refl _)
      · refine hj_loc (lv' := [(0, .ref x0), (1, .int x1)]) [0, 1] rfl ?_
        exact sX12_expression_b23 ih _ _ _ _
def fX12_expression (a0 : Nat) (σ : Sto) : Option (Unit × Sto) := ck σ 12 a0 ((pV σ 12 a0 43 (.int ((0 : Int32)))).bind fun σ50 => ((gI σ50 12 a0 12).bind fun t51 => (fX12_expression_b12 FU a0 t51 ((1 : Int32)) σ50)))
set_option maxHeartbeats 2000000 in
theorem kX12_expression (G : GP) (a0 : Nat) (σ : Sto) : Me G mX12_expression 4 0 0 jV [.ref a0] σ (fX12_expression a0 σ) := by
  refine hs_me (lv := [(0, .ref a0)]) (plainFor_of_name (by decide +kernel)) (Nat.le_of_ble_eq_true rfl) rfl ?_
  unfold fX12_expression
  refine hj_ck ?_
  refine hj_aload_n 0 dX12_expression_0 rfl ?_
  refine hj_iconst (0 : Int32) dX12_expression_1 (by decide) ?_
  refine hj_put (fpX12_281 _) (fun _ => rfl) (fun _ => rfl) dX12_expression_2 (fun σ50 _ => ?_)
  refine hj_aload_n 0 dX12_expression_5 rfl ?_
  refine hj_getI flX12_218 dX12_expression_6 (fun t51 _ => ?_)
  refine hj_istore_n (lv' := [(0, .ref a0), (1, .int t51)]) dX12_expression_9 (by decide) [1, 0] rfl ?_
  refine hj_iconst (1 : Int32) dX12_expression_10 (by decide) ?_
  refine hj_istore_n (lv' := [(0, .ref a0), (1, .int t51), (2, .int (1 : Int32))]) dX12_expression_11 (by decide) [1, 2, 0] rfl ?_
  refine hj_loc (lv' := [(0, .ref a0), (1, .int t51), (2, .int (1 : Int32))]) [0, 1, 2] rfl ?_
  exact sX12_expression_b12 _ _ _ _ _
theorem cX12_expressionk {a0 : Nat} {σ : Sto} {r : Unit × Sto} (h : fX12_expression a0 σ = some r) : ∃ fs, hs_o σ 12 a0 = some fs := (ck_of h).1
def fX12_term_b24 (x0 : Nat) (σ : Sto) : Option (Unit × Sto) := ((gR σ 12 x0 38).bind fun t1 => ((gI σ 12 x0 33).bind fun t2 => ((gI σ 12 x0 39).bind fun t3 => ((sI σ 2 t1 t2 t3).bind fun σ4 => ((gI σ4 12 x0 33).bind fun t5 => ((pV σ4 12 x0 33 (.int ((t5 + ((1 : Int32)))))).bind fun σ6 => (some ((), σ6))))))))
set_option maxHeartbeats 2000000 in
theorem sX12_term_b24 {G : GP} {n0 : Nat} : ∀ (x0 : Nat) (σ : Sto), Sim G mX12_term 5 0 0 n0 jV 0 0 24 [(0, .ref x0)] [] σ (fX12_term_b24 x0 σ) := by
  intro x0 σ
  unfold fX12_term_b24
  refine hj_aload_n 0 dX12_term_24 rfl ?_
  refine hj_getR flX12_89 dX12_term_25 (fun t1 _ => ?_)
  refine hj_aload_n 0 dX12_term_28 rfl ?_
  refine hj_getI flX12_230 dX12_term_29 (fun t2 _ => ?_)
  refine hj_aload_n 0 dX12_term_32 rfl ?_
  refine hj_getI flX12_233 dX12_term_33 (fun t3 _ => ?_)
  refine hj_iast dX12_term_36 (fun σ4 _ => ?_)
  refine hj_aload_n 0 dX12_term_37 rfl ?_
  refine hj_dup dX12_term_38 rfl ?_
  refine hj_getI flX12_230 dX12_term_39 (fun t5 _ => ?_)
  refine hj_iconst (1 : Int32) dX12_term_42 (by decide) ?_
  refine hj_iadd dX12_term_43 ?_
  refine hj_put (fpX12_230 _) (fun _ => rfl) (fun _ => rfl) dX12_term_44 (fun σ6 _ => ?_)
  exact hj_vret dX12_term_47 rfl rfl (Nat.le_refl _)
def fX12_term (a0 : Nat) (σ : Sto) : Option (Unit × Sto) := ck σ 12 a0 ((gR σ 12 a0 37).bind fun t7 => ((gI σ 12 a0 33).bind fun t8 => ((gI σ 12 a0 39).bind fun t9 => ((sI σ 2 t7 t8 t9).bind fun σ10 => ((gI σ10 12 a0 13).bind fun t11 => (if t11 = 0 then (cb (fX12_expression a0 σ10) fun _ σ12 => (fX12_term_b24 a0 σ12)) else (fX12_term_b24 a0 σ10)))))))
set_option maxHeartbeats 2000000 in
theorem kX12_term (G : GP) (a0 : Nat) (σ : Sto) : Me G mX12_term 5 0 0 jV [.ref a0] σ (fX12_term a0 σ) := by
  refine hs_me (lv := [(0, .ref a0)]) (plainFor_of_name (by decide +kernel)) (Nat.le_of_ble_eq_true rfl) rfl ?_
  unfold fX12_term
  refine hj_ck ?_
  refine hj_aload_n 0 dX12_term_0 rfl ?_
  refine hj_getR flX12_86 dX12_term_1 (fun t7 _ => ?_)
  refine hj_aload_n 0 dX12_term_4 rfl ?_
  refine hj_getI flX12_230 dX12_term_5 (fun t8 _ => ?_)
  refine hj_aload_n 0 dX12_term_8 rfl ?_
  refine hj_getI flX12_233 dX12_term_9 (fun t9 _ => ?_)
  refine hj_iast dX12_term_12 (fun σ10 _ => ?_)
  refine hj_aload_n 0 dX12_term_13 rfl ?_
  refine hj_getI flX12_191 dX12_term_14 (fun t11 _ => ?_)
  refine hj_if_ne 24 dX12_term_17 (by decide) (fun _ => ?_) (fun _ => ?_)
  · refine hj_loc (lv' := [(0, .ref a0)]) [0] rfl ?_
    exact sX12_term_b24 _ _
  · refine hj_aload_n 0 dX12_term_20 rfl ?_
    refine hj_callV (ci := 12) (M' := mX12_expression) (h' := 4) (As := []) mfX12_expression mvX12_expression ⟨_, _, rfl⟩ mlX12_275 dX12_term_21 (kX12_expression G _ _) (fun _ hr => cX12_expressionk hr) ⟨Nat.le_of_ble_eq_true rfl, Nat.le_of_ble_eq_true rfl⟩ ⟨Nat.le_refl _, Nat.le_refl _⟩ rfl (Nat.le_of_ble_eq_true rfl) (fun _ σ12 _ => ?_)
    refine hj_loc (lv' := [(0, .ref a0)]) [0] rfl ?_
    exact sX12_term_b24 _ _
theorem cX12_termk {a0 : Nat} {σ : Sto} {r : Unit × Sto} (h : fX12_term a0 σ = some r) : ∃ fs, hs_o σ 12 a0 = some fs := (ck_of h).1
