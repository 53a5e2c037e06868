def fJ9_floorDiv_7cf53 (a0 : Int32) (a1 : Int32) (σ : Sto) : Option (Int32 × Sto) := (if a1 = 0 then none else (lt ((a0 / a1)) fun v1 => (if 0 ≤ (a0 ^^^ a1) then (some (v1, σ)) else (if (v1 * a1) = a0 then (some (v1, σ)) else (some ((v1 - ((1 : Int32))), σ))))))
set_option maxHeartbeats 2000000 in
theorem kJ9_floorDiv_7cf53 (G : GP) (a0 : Int32) (a1 : Int32) (σ : Sto) : Me G mJ9_floorDiv_7cf53 1 0 0 jI [.int a0, .int a1] σ (fJ9_floorDiv_7cf53 a0 a1 σ) := by
  refine hs_me (lv := [(0, .int a0), (1, .int a1)]) (by decide +kernel) (Nat.le_of_ble_eq_true rfl) rfl ?_
  unfold fJ9_floorDiv_7cf53
  refine hj_iload_n 0 dJ9_floorDiv_7cf53_0 rfl ?_
  refine hj_iload_n 1 dJ9_floorDiv_7cf53_1 rfl ?_
  refine hj_idiv dJ9_floorDiv_7cf53_2 (fun _ => ?_)
  refine hj_ltI (fun v1 _ => ?_)
  refine hj_istore_n (lv' := [(0, .int a0), (1, .int a1), (2, .int v1)]) dJ9_floorDiv_7cf53_3 (by decide) [1, 2, 0] rfl ?_
  refine hj_iload_n 0 dJ9_floorDiv_7cf53_4 rfl ?_
  refine hj_iload_n 1 dJ9_floorDiv_7cf53_5 rfl ?_
  refine hj_ixor dJ9_floorDiv_7cf53_6 ?_
  refine hj_if_ge 21 dJ9_floorDiv_7cf53_7 (by decide) (fun _ => ?_) (fun _ => ?_)
  · refine hj_iload_n 2 dJ9_floorDiv_7cf53_21 rfl ?_
    exact hj_iret dJ9_floorDiv_7cf53_22 rfl rfl (Nat.le_refl _)
  · refine hj_iload_n 2 dJ9_floorDiv_7cf53_10 rfl ?_
    refine hj_iload_n 1 dJ9_floorDiv_7cf53_11 rfl ?_
    refine hj_imul dJ9_floorDiv_7cf53_12 ?_
    refine hj_iload_n 0 dJ9_floorDiv_7cf53_13 rfl ?_
    refine hj_icmp_eq 21 dJ9_floorDiv_7cf53_14 (by decide) (fun _ => ?_) (fun _ => ?_)
    · refine hj_iload_n 2 dJ9_floorDiv_7cf53_21 rfl ?_
      exact hj_iret dJ9_floorDiv_7cf53_22 rfl rfl (Nat.le_refl _)
    · refine hj_iload_n 2 dJ9_floorDiv_7cf53_17 rfl ?_
      refine hj_iconst (1 : Int32) dJ9_floorDiv_7cf53_18 (by decide) ?_
      refine hj_isub dJ9_floorDiv_7cf53_19 ?_
      exact hj_iret dJ9_floorDiv_7cf53_20 rfl rfl (Nat.le_refl _)
def fJ9_abs_067f4 (a0 : Int64) (σ : Sto) : Option (Int64 × Sto) := (if 0 ≤ (lg_cmp a0 ((0 : Int64))) then (some (a0, σ)) else (some ((-a0), σ)))
set_option maxHeartbeats 2000000 in
theorem kJ9_abs_067f4 (G : GP) (a0 : Int64) (σ : Sto) : Me G mJ9_abs_067f4 1 0 0 jL [.long a0] σ (fJ9_abs_067f4 a0 σ) := by
  refine hs_me (lv := [(0, .long a0)]) (by decide +kernel) (Nat.le_of_ble_eq_true rfl) rfl ?_
  unfold fJ9_abs_067f4
  refine hj_lload_n 0 dJ9_abs_067f4_0 rfl ?_
  refine hj_lconst (0 : Int64) dJ9_abs_067f4_1 (by decide) ?_
  refine hj_lcmp dJ9_abs_067f4_2 ?_
  refine hj_if_ge 11 dJ9_abs_067f4_3 (by decide) (fun _ => ?_) (fun _ => ?_)
  · refine hj_lload_n 0 dJ9_abs_067f4_11 rfl ?_
    exact hj_lret dJ9_abs_067f4_12 rfl rfl (Nat.le_refl _)
  · refine hj_lload_n 0 dJ9_abs_067f4_6 rfl ?_
    refine hj_lneg dJ9_abs_067f4_7 ?_
    refine hj_goto 12 dJ9_abs_067f4_8 (by decide) ?_
    exact hj_lret dJ9_abs_067f4_12 rfl rfl (Nat.le_refl _)
def fJ9_max_7cf53 (a0 : Int32) (a1 : Int32) (σ : Sto) : Option (Int32 × Sto) := (if a0 < a1 then (some (a1, σ)) else (some (a0, σ)))
set_option maxHeartbeats 2000000 in
theorem kJ9_max_7cf53 (G : GP) (a0 : Int32) (a1 : Int32) (σ : Sto) : Me G mJ9_max_7cf53 1 0 0 jI [.int a0, .int a1] σ (fJ9_max_7cf53 a0 a1 σ) := by
  refine hs_me (lv := [(0, .int a0), (1, .int a1)]) (by decide +kernel) (Nat.le_of_ble_eq_true rfl) rfl ?_
  unfold fJ9_max_7cf53
  refine hj_iload_n 0 dJ9_max_7cf53_0 rfl ?_
  refine hj_iload_n 1 dJ9_max_7cf53_1 rfl ?_
  refine hj_icmp_lt 9 dJ9_max_7cf53_2 (by decide) (fun _ => ?_) (fun _ => ?_)
  · refine hj_iload_n 1 dJ9_max_7cf53_9 rfl ?_
    exact hj_iret dJ9_max_7cf53_10 rfl rfl (Nat.le_refl _)
  · refine hj_iload_n 0 dJ9_max_7cf53_5 rfl ?_
    refine hj_goto 10 dJ9_max_7cf53_6 (by decide) ?_
    exact hj_iret dJ9_max_7cf53_10 rfl rfl (Nat.le_refl _)
def fJ9_min_7cf53 (a0 : Int32) (a1 : Int32) (σ : Sto) : Option (Int32 × Sto) := (if a1 < a0 then (some (a1, σ)) else (some (a0, σ)))
set_option maxHeartbeats 2000000 in
theorem kJ9_min_7cf53 (G : GP) (a0 : Int32) (a1 : Int32) (σ : Sto) : Me G mJ9_min_7cf53 1 0 0 jI [.int a0, .int a1] σ (fJ9_min_7cf53 a0 a1 σ) := by
  refine hs_me (lv := [(0, .int a0), (1, .int a1)]) (by decide +kernel) (Nat.le_of_ble_eq_true rfl) rfl ?_
  unfold fJ9_min_7cf53
  refine hj_iload_n 0 dJ9_min_7cf53_0 rfl ?_
  refine hj_iload_n 1 dJ9_min_7cf53_1 rfl ?_
  refine hj_icmp_gt 9 dJ9_min_7cf53_2 (by decide) (fun _ => ?_) (fun _ => ?_)
  · refine hj_iload_n 1 dJ9_min_7cf53_9 rfl ?_
    exact hj_iret dJ9_min_7cf53_10 rfl rfl (Nat.le_refl _)
  · refine hj_iload_n 0 dJ9_min_7cf53_5 rfl ?_
    refine hj_goto 10 dJ9_min_7cf53_6 (by decide) ?_
    exact hj_iret dJ9_min_7cf53_10 rfl rfl (Nat.le_refl _)
def fX5_put (a0 : Nat) (a1 : Int32) (a2 : Int32) (a3 : Int32) (σ : Sto) : Option (Unit × Sto) := ck σ 5 a0 ((gI σ 5 a0 0).bind fun t1 => (if (6 : Int32) ≤ t1 then (some ((), σ)) else (if a1 < 0 then (some ((), σ)) else (if (6 : Int32) ≤ a1 then (some ((), σ)) else ((gR σ 5 a0 1).bind fun t2 => ((gI σ 5 a0 0).bind fun t3 => ((sI σ 2 t2 t3 a1).bind fun σ4 => ((gR σ4 5 a0 2).bind fun t5 => ((gI σ4 5 a0 0).bind fun t6 => ((sI σ4 2 t5 t6 a2).bind fun σ7 => ((gR σ7 5 a0 3).bind fun t8 => ((gI σ7 5 a0 0).bind fun t9 => ((sI σ7 4 t8 t9 a3).bind fun σ10 => ((gI σ10 5 a0 0).bind fun t11 => ((pV σ10 5 a0 0 (.int ((t11 + ((1 : Int32)))))).bind fun σ12 => (some ((), σ12)))))))))))))))))
set_option maxHeartbeats 2000000 in
theorem kX5_put (G : GP) (a0 : Nat) (a1 : Int32) (a2 : Int32) (a3 : Int32) (σ : Sto) : Me G mX5_put 1 0 0 jV [.ref a0, .int a1, .int a2, .int a3] σ (fX5_put a0 a1 a2 a3 σ) := by
  refine hs_me (lv := [(0, .ref a0), (1, .int a1), (2, .int a2), (3, .int a3)]) (plainFor_of_name (by decide +kernel)) (Nat.le_of_ble_eq_true rfl) rfl ?_
  unfold fX5_put
  refine hj_ck ?_
  refine hj_aload_n 0 dX5_put_0 rfl ?_
  refine hj_getI flX5_9 dX5_put_1 (fun t1 _ => ?_)
  refine hj_bipush (6 : Int32) dX5_put_4 (by decide) ?_
  refine hj_icmp_ge 59 dX5_put_6 (by decide) (fun _ => ?_) (fun _ => ?_)
  · exact hj_vret dX5_put_59 rfl rfl (Nat.le_refl _)
  · refine hj_iload_n 1 dX5_put_9 rfl ?_
    refine hj_if_lt 59 dX5_put_10 (by decide) (fun _ => ?_) (fun _ => ?_)
    · exact hj_vret dX5_put_59 rfl rfl (Nat.le_refl _)
    · refine hj_iload_n 1 dX5_put_13 rfl ?_
      refine hj_bipush (6 : Int32) dX5_put_14 (by decide) ?_
      refine hj_icmp_ge 59 dX5_put_16 (by decide) (fun _ => ?_) (fun _ => ?_)
      · exact hj_vret dX5_put_59 rfl rfl (Nat.le_refl _)
      · refine hj_aload_n 0 dX5_put_19 rfl ?_
        refine hj_getR flX5_15 dX5_put_20 (fun t2 _ => ?_)
        refine hj_aload_n 0 dX5_put_23 rfl ?_
        refine hj_getI flX5_9 dX5_put_24 (fun t3 _ => ?_)
        refine hj_iload_n 1 dX5_put_27 rfl ?_
        refine hj_iast dX5_put_28 (fun σ4 _ => ?_)
        refine hj_aload_n 0 dX5_put_29 rfl ?_
        refine hj_getR flX5_19 dX5_put_30 (fun t5 _ => ?_)
        refine hj_aload_n 0 dX5_put_33 rfl ?_
        refine hj_getI flX5_9 dX5_put_34 (fun t6 _ => ?_)
        refine hj_iload_n 2 dX5_put_37 rfl ?_
        refine hj_iast dX5_put_38 (fun σ7 _ => ?_)
        refine hj_aload_n 0 dX5_put_39 rfl ?_
        refine hj_getR flX5_22 dX5_put_40 (fun t8 _ => ?_)
        refine hj_aload_n 0 dX5_put_43 rfl ?_
        refine hj_getI flX5_9 dX5_put_44 (fun t9 _ => ?_)
        refine hj_iload_n 3 dX5_put_47 rfl ?_
        refine hj_zast dX5_put_48 (fun σ10 _ => ?_)
        refine hj_aload_n 0 dX5_put_49 rfl ?_
        refine hj_dup dX5_put_50 rfl ?_
        refine hj_getI flX5_9 dX5_put_51 (fun t11 _ => ?_)
        refine hj_iconst (1 : Int32) dX5_put_54 (by decide) ?_
        refine hj_iadd dX5_put_55 ?_
        refine hj_put (fpX5_9 _) (fun _ => rfl) (fun _ => rfl) dX5_put_56 (fun σ12 _ => ?_)
        exact hj_vret dX5_put_59 rfl rfl (Nat.le_refl _)
theorem cX5_putk {a0 : Nat} {a1 : Int32} {a2 : Int32} {a3 : Int32} {σ : Sto} {r : Unit × Sto} (h : fX5_put a0 a1 a2 a3 σ = some r) : ∃ fs, hs_o σ 5 a0 = some fs := (ck_of h).1
def fX5_drop (a0 : Nat) (σ : Sto) : Option (Unit × Sto) := ck σ 5 a0 ((gI σ 5 a0 0).bind fun t1 => (if t1 ≤ 0 then (some ((), σ)) else ((gI σ 5 a0 0).bind fun t2 => ((pV σ 5 a0 0 (.int ((t2 - ((1 : Int32)))))).bind fun σ3 => (some ((), σ3))))))
set_option maxHeartbeats 2000000 in
theorem kX5_drop (G : GP) (a0 : Nat) (σ : Sto) : Me G mX5_drop 1 0 0 jV [.ref a0] σ (fX5_drop a0 σ) := by
  refine hs_me (lv := [(0, .ref a0)]) (plainFor_of_name (by decide +kernel)) (Nat.le_of_ble_eq_true rfl) rfl ?_
  unfold fX5_drop
  refine hj_ck ?_
  refine hj_aload_n 0 dX5_drop_0 rfl ?_
  refine hj_getI flX5_9 dX5_drop_1 (fun t1 _ => ?_)
  refine hj_if_le 17 dX5_drop_4 (by decide) (fun _ => ?_) (fun _ => ?_)
  · exact hj_vret dX5_drop_17 rfl rfl (Nat.le_refl _)
  · refine hj_aload_n 0 dX5_drop_7 rfl ?_
    refine hj_dup dX5_drop_8 rfl ?_
    refine hj_getI flX5_9 dX5_drop_9 (fun t2 _ => ?_)
    refine hj_iconst (1 : Int32) dX5_drop_12 (by decide) ?_
    refine hj_isub dX5_drop_13 ?_
    refine hj_put (fpX5_9 _) (fun _ => rfl) (fun _ => rfl) dX5_drop_14 (fun σ3 _ => ?_)
    exact hj_vret dX5_drop_17 rfl rfl (Nat.le_refl _)
theorem cX5_dropk {a0 : Nat} {σ : Sto} {r : Unit × Sto} (h : fX5_drop a0 σ = some r) : ∃ fs, hs_o σ 5 a0 = some fs := (ck_of h).1
def fX5_shift_b6 : Nat → Nat → Int32 → Int32 → Sto → Option (Unit × Sto)
  | 0, _, _, _, _ => none
  | n + 1, x0, x2, x3, σ => ((gI σ 5 x0 0).bind fun t1 => (if t1 ≤ x3 then (some ((), σ)) else ((gR σ 5 x0 2).bind fun t2 => ((aI σ 2 t2 x3).bind fun t3 => ((sI σ 2 t2 x3 ((t3 + x2))).bind fun σ4 => (fX5_shift_b6 n x0 x2 (x3 + (1 : Int32)) σ4))))))
set_option maxHeartbeats 2000000 in
theorem sX5_shift_b6 {G : GP} {n0 : Nat} : ∀ (n : Nat) (x0 : Nat) (x2 : Int32) (x3 : Int32) (σ : Sto), Sim G mX5_shift 2 0 0 n0 jV 0 0 6 [(0, .ref x0), (2, .int x2), (3, .int x3)] [] σ (fX5_shift_b6 n x0 x2 x3 σ) := by
  intro n
  induction n with
  | zero => intros; rw [fX5_shift_b6]; exact hj_none
  | succ n ih =>
    intro x0 x2 x3 σ
    rw [fX5_shift_b6]
    refine hj_iload_n 2 dX5_shift_6 rfl ?_
    refine hj_aload_n 0 dX5_shift_7 rfl ?_
    refine hj_getI flX5_9 dX5_shift_8 (fun t1 _ => ?_)
    refine hj_icmp_ge 30 dX5_shift_11 (by decide) (fun _ => ?_) (fun _ => ?_)
    · exact hj_vret dX5_shift_30 rfl rfl (Nat.le_refl _)
    · refine hj_aload_n 0 dX5_shift_14 rfl ?_
      refine hj_getR flX5_19 dX5_shift_15 (fun t2 _ => ?_)
      refine hj_iload_n 2 dX5_shift_18 rfl ?_
      refine hj_dup2 dX5_shift_19 rfl rfl ?_
      refine hj_iald dX5_shift_20 (fun t3 _ => ?_)
      refine hj_iload_n 1 dX5_shift_21 rfl ?_
      refine hj_iadd dX5_shift_22 ?_
      refine hj_iast dX5_shift_23 (fun σ4 _ => ?_)
      refine hj_iinc (lv' := [(0, .ref x0), (2, .int x2), (3, .int (x3 + (1 : Int32)))]) 2 (1 : Int32) dX5_shift_24 rfl (by decide) (by decide) [1, 2, 0] rfl ?_
      refine hj_goto 6 dX5_shift_27 (by decide) ?_
      refine hj_loc (lv' := [(0, .ref x0), (2, .int x2), (3, .int (x3 + (1 : Int32)))]) [0, 1, 2] rfl ?_
      exact ih _ _ _ _
def fX5_shift (a0 : Nat) (a1 : Int32) (a2 : Int32) (σ : Sto) : Option (Unit × Sto) := ck σ 5 a0 (cb (fJ9_max_7cf53 ((0 : Int32)) a1 σ) fun r6 σ5 => (fX5_shift_b6 FU a0 a2 r6 σ5))
set_option maxHeartbeats 2000000 in
theorem kX5_shift (G : GP) (a0 : Nat) (a1 : Int32) (a2 : Int32) (σ : Sto) : Me G mX5_shift 2 0 0 jV [.ref a0, .int a1, .int a2] σ (fX5_shift a0 a1 a2 σ) := by
  refine hs_me (lv := [(0, .ref a0), (1, .int a1), (2, .int a2)]) (plainFor_of_name (by decide +kernel)) (Nat.le_of_ble_eq_true rfl) rfl ?_
  unfold fX5_shift
  refine hj_ck ?_
  refine hj_iconst (0 : Int32) dX5_shift_0 (by decide) ?_
  refine hj_iload_n 1 dX5_shift_1 rfl ?_
  refine hj_callS (M' := mJ9_max_7cf53) (h' := 1) (As := [.int ((0 : Int32)), .int a1]) mfJ9_max_7cf53 msJ9_max_7cf53 mlX5_26 dX5_shift_2 (kJ9_max_7cf53 G _ _ _) ⟨Nat.le_of_ble_eq_true rfl, Nat.le_of_ble_eq_true rfl⟩ ⟨Nat.le_refl _, Nat.le_refl _⟩ rfl (Nat.le_of_ble_eq_true rfl) (fun r6 σ5 _ => ?_)
  refine hj_istore_n (lv' := [(0, .ref a0), (1, .int a1), (2, .int a2), (3, .int r6)]) dX5_shift_5 (by decide) [1, 2, 3, 0] rfl ?_
  refine hj_loc (lv' := [(0, .ref a0), (2, .int a2), (3, .int r6)]) [0, 2, 3] rfl ?_
  exact sX5_shift_b6 _ _ _ _ _
theorem cX5_shiftk {a0 : Nat} {a1 : Int32} {a2 : Int32} {σ : Sto} {r : Unit × Sto} (h : fX5_shift a0 a1 a2 σ = some r) : ∃ fs, hs_o σ 5 a0 = some fs := (ck_of h).1
def fX5_levelOf_b2 : Nat → Nat → Int32 → Int32 → Sto → Option (Int32 × Sto)
  | 0, _, _, _, _ => none
  | n + 1, x0, x1, x2, σ => ((gI σ 5 x0 0).bind fun t1 => (if t1 ≤ x2 then (some ((-1 : Int32), σ)) else ((gR σ 5 x0 1).bind fun t2 => ((aI σ 2 t2 x2).bind fun t3 => (if t3 = x1 then (some (x2, σ)) else (fX5_levelOf_b2 n x0 x1 (x2 + (1 : Int32)) σ))))))
set_option maxHeartbeats 2000000 in
theorem sX5_levelOf_b2 {G : GP} {n0 : Nat} : ∀ (n : Nat) (x0 : Nat) (x1 : Int32) (x2 : Int32) (σ : Sto), Sim G mX5_levelOf 1 0 0 n0 jI 0 0 2 [(0, .ref x0), (1, .int x1), (2, .int x2)] [] σ (fX5_levelOf_b2 n x0 x1 x2 σ) := by
  intro n
  induction n with
  | zero => intros; rw [fX5_levelOf_b2]; exact hj_none
  | succ n ih =>
    intro x0 x1 x2 σ
    rw [fX5_levelOf_b2]
    refine hj_iload_n 2 dX5_levelOf_2 rfl ?_
    refine hj_aload_n 0 dX5_levelOf_3 rfl ?_
    refine hj_getI flX5_9 dX5_levelOf_4 (fun t1 _ => ?_)
    refine hj_icmp_ge 28 dX5_levelOf_7 (by decide) (fun _ => ?_) (fun _ => ?_)
    · refine hj_iconst (-1 : Int32) dX5_levelOf_28 (by decide) ?_
      exact hj_iret dX5_levelOf_29 rfl rfl (Nat.le_refl _)
    · refine hj_aload_n 0 dX5_levelOf_10 rfl ?_
      refine hj_getR flX5_15 dX5_levelOf_11 (fun t2 _ => ?_)
      refine hj_iload_n 2 dX5_levelOf_14 rfl ?_
      refine hj_iald dX5_levelOf_15 (fun t3 _ => ?_)
      refine hj_iload_n 1 dX5_levelOf_16 rfl ?_
      refine hj_icmp_ne 22 dX5_levelOf_17 (by decide) (fun _ => ?_) (fun _ => ?_)
      · refine hj_iinc (lv' := [(0, .ref x0), (1, .int x1), (2, .int (x2 + (1 : Int32)))]) 2 (1 : Int32) dX5_levelOf_22 rfl (by decide) (by decide) [1, 2, 0] rfl ?_
        refine hj_goto 2 dX5_levelOf_25 (by decide) ?_
        refine hj_loc (lv' := [(0, .ref x0), (1, .int x1), (2, .int (x2 + (1 : Int32)))]) [0, 1, 2] rfl ?_
        exact ih _ _ _ _
      · refine hj_iload_n 2 dX5_levelOf_20 rfl ?_
        exact hj_iret dX5_levelOf_21 rfl rfl (Nat.le_refl _)
def fX5_levelOf (a0 : Nat) (a1 : Int32) (σ : Sto) : Option (Int32 × Sto) := ck σ 5 a0 (fX5_levelOf_b2 FU a0 a1 ((0 : Int32)) σ)
set_option maxHeartbeats 2000000 in
theorem kX5_levelOf (G : GP) (a0 : Nat) (a1 : Int32) (σ : Sto) : Me G mX5_levelOf 1 0 0 jI [.ref a0, .int a1] σ (fX5_levelOf a0 a1 σ) := by
  refine hs_me (lv := [(0, .ref a0), (1, .int a1)]) (plainFor_of_name (by decide +kernel)) (Nat.le_of_ble_eq_true rfl) rfl ?_
  unfold fX5_levelOf
  refine hj_ck ?_
  refine hj_iconst (0 : Int32) dX5_levelOf_0 (by decide) ?_
  refine hj_istore_n (lv' := [(0, .ref a0), (1, .int a1), (2, .int (0 : Int32))]) dX5_levelOf_1 (by decide) [1, 2, 0] rfl ?_
  refine hj_loc (lv' := [(0, .ref a0), (1, .int a1), (2, .int (0 : Int32))]) [0, 1, 2] rfl ?_
  exact sX5_levelOf_b2 _ _ _ _ _
theorem cX5_levelOfk {a0 : Nat} {a1 : Int32} {σ : Sto} {r : Int32 × Sto} (h : fX5_levelOf a0 a1 σ = some r) : ∃ fs, hs_o σ 5 a0 = some fs := (ck_of h).1
def fX5_copyFrom_b7 : Nat → Nat → Nat → Int32 → Sto → Option (Unit × Sto)
  | 0, _, _, _, _ => none
  | n + 1, x0, x1, x2, σ => ((gI σ 5 x1 0).bind fun t1 => (if t1 ≤ x2 then (some ((), σ)) else ((gR σ 5 x1 1).bind fun t2 => ((aI σ 2 t2 x2).bind fun t3 => ((gR σ 5 x1 2).bind fun t4 => ((aI σ 2 t4 x2).bind fun t5 => ((gR σ 5 x1 3).bind fun t6 => ((aI σ 4 t6 x2).bind fun t7 => (cb (fX5_put x0 t3 t5 t7 σ) fun _ σ8 => (fX5_copyFrom_b7 n x0 x1 (x2 + (1 : Int32)) σ8))))))))))
set_option maxHeartbeats 2000000 in
theorem sX5_copyFrom_b7 {G : GP} {n0 : Nat} : ∀ (n : Nat) (x0 : Nat) (x1 : Nat) (x2 : Int32) (σ : Sto), Sim G mX5_copyFrom 2 0 0 n0 jV 0 0 7 [(0, .ref x0), (1, .ref x1), (2, .int x2)] [] σ (fX5_copyFrom_b7 n x0 x1 x2 σ) := by
  intro n
  induction n with
  | zero => intros; rw [fX5_copyFrom_b7]; exact hj_none
  | succ n ih =>
    intro x0 x1 x2 σ
    rw [fX5_copyFrom_b7]
    refine hj_iload_n 2 dX5_copyFrom_7 rfl ?_
    refine hj_aload_n 1 dX5_copyFrom_8 rfl ?_
    refine hj_getI flX5_9 dX5_copyFrom_9 (fun t1 _ => ?_)
    refine hj_icmp_ge 43 dX5_copyFrom_12 (by decide) (fun _ => ?_) (fun _ => ?_)
    · exact hj_vret dX5_copyFrom_43 rfl rfl (Nat.le_refl _)
    · refine hj_aload_n 0 dX5_copyFrom_15 rfl ?_
      refine hj_aload_n 1 dX5_copyFrom_16 rfl ?_
      refine hj_getR flX5_15 dX5_copyFrom_17 (fun t2 _ => ?_)
      refine hj_iload_n 2 dX5_copyFrom_20 rfl ?_
      refine hj_iald dX5_copyFrom_21 (fun t3 _ => ?_)
      refine hj_aload_n 1 dX5_copyFrom_22 rfl ?_
      refine hj_getR flX5_19 dX5_copyFrom_23 (fun t4 _ => ?_)
      refine hj_iload_n 2 dX5_copyFrom_26 rfl ?_
      refine hj_iald dX5_copyFrom_27 (fun t5 _ => ?_)
      refine hj_aload_n 1 dX5_copyFrom_28 rfl ?_
      refine hj_getR flX5_22 dX5_copyFrom_29 (fun t6 _ => ?_)
      refine hj_iload_n 2 dX5_copyFrom_32 rfl ?_
      refine hj_zald dX5_copyFrom_33 (fun t7 _ => ?_)
      refine hj_callV (ci := 5) (M' := mX5_put) (h' := 1) (As := [.int t3, .int t5, .int t7]) mfX5_put mvX5_put ⟨_, _, rfl⟩ mlX5_32 dX5_copyFrom_34 (kX5_put G _ _ _ _ _) (fun _ hr => cX5_putk hr) ⟨Nat.le_of_ble_eq_true rfl, Nat.le_of_ble_eq_true rfl⟩ ⟨Nat.le_refl _, Nat.le_refl _⟩ rfl (Nat.le_of_ble_eq_true rfl) (fun _ σ8 _ => ?_)
      refine hj_iinc (lv' := [(0, .ref x0), (1, .ref x1), (2, .int (x2 + (1 : Int32)))]) 2 (1 : Int32) dX5_copyFrom_37 rfl (by decide) (by decide) [1, 2, 0] rfl ?_
      refine hj_goto 7 dX5_copyFrom_40 (by decide) ?_
      refine hj_loc (lv' := [(0, .ref x0), (1, .ref x1), (2, .int (x2 + (1 : Int32)))]) [0, 1, 2] rfl ?_
      exact ih _ _ _ _
def fX5_copyFrom (a0 : Nat) (a1 : Nat) (σ : Sto) : Option (Unit × Sto) := ck σ 5 a0 ((pV σ 5 a0 0 (.int ((0 : Int32)))).bind fun σ9 => (fX5_copyFrom_b7 FU a0 a1 ((0 : Int32)) σ9))
set_option maxHeartbeats 2000000 in
theorem kX5_copyFrom (G : GP) (a0 : Nat) (a1 : Nat) (σ : Sto) : Me G mX5_copyFrom 2 0 0 jV [.ref a0, .ref a1] σ (fX5_copyFrom a0 a1 σ) := by
  refine hs_me (lv := [(0, .ref a0), (1, .ref a1)]) (plainFor_of_name (by decide +kernel)) (Nat.le_of_ble_eq_true rfl) rfl ?_
  unfold fX5_copyFrom
  refine hj_ck ?_
  refine hj_aload_n 0 dX5_copyFrom_0 rfl ?_
  refine hj_iconst (0 : Int32) dX5_copyFrom_1 (by decide) ?_
  refine hj_put (fpX5_9 _) (fun _ => rfl) (fun _ => rfl) dX5_copyFrom_2 (fun σ9 _ => ?_)
  refine hj_iconst (0 : Int32) dX5_copyFrom_5 (by decide) ?_
  refine hj_istore_n (lv' := [(0, .ref a0), (1, .ref a1), (2, .int (0 : Int32))]) dX5_copyFrom_6 (by decide) [1, 2, 0] rfl ?_
  refine hj_loc (lv' := [(0, .ref a0), (1, .ref a1), (2, .int (0 : Int32))]) [0, 1, 2] rfl ?_
  exact sX5_copyFrom_b7 _ _ _ _ _
theorem cX5_copyFromk {a0 : Nat} {a1 : Nat} {σ : Sto} {r : Unit × Sto} (h : fX5_copyFrom a0 a1 σ = some r) : ∃ fs, hs_o σ 5 a0 = some fs := (ck_of h).1
def fX5_keepOf_b79 (K7 : Nat → Nat → Int32 → Int32 → Sto → Option (Unit × Sto)) (x0 : Nat) (x1 : Nat) (x2 : Int32) (x3 : Int32) (σ : Sto) : Option (Unit × Sto) := (K7 x0 x1 x2 (x3 + (1 : Int32)) σ)
set_option maxHeartbeats 2000000 in
theorem sX5_keepOf_b79 {G : GP} {n0 : Nat} {K7 : Nat → Nat → Int32 → Int32 → Sto → Option (Unit × Sto)} (hK7 : ∀ (x0 : Nat) (x1 : Nat) (x2 : Int32) (x3 : Int32) (σ : Sto), Sim G mX5_keepOf 2 0 0 n0 jV 0 0 7 [(0, .ref x0), (1, .ref x1), (2, .int x2), (3, .int x3)] [] σ (K7 x0 x1 x2 x3 σ)) : ∀ (x0 : Nat) (x1 : Nat) (x2 : Int32) (x3 : Int32) (σ : Sto), Sim G mX5_keepOf 2 0 0 n0 jV 0 0 79 [(0, .ref x0), (1, .ref x1), (2, .int x2), (3, .int x3)] [] σ (fX5_keepOf_b79 K7 x0 x1 x2 x3 σ) := by
  intro x0 x1 x2 x3 σ
  unfold fX5_keepOf_b79
  refine hj_iinc (lv' := [(0, .ref x0), (1, .ref x1), (2, .int x2), (3, .int (x3 + (1 : Int32)))]) 3 (1 : Int32) dX5_keepOf_79 rfl (by decide) (by decide) [1, 2, 3, 0] rfl ?_
  refine hj_goto 7 dX5_keepOf_82 (by decide) ?_
  refine hj_loc (lv' := [(0, .ref x0), (1, .ref x1), (2, .int x2), (3, .int (x3 + (1 : Int32)))]) [0, 1, 2, 3] rfl ?_
  exact hK7 _ _ _ _ _
def fX5_keepOf_b76 (K7 : Nat → Nat → Int32 → Int32 → Sto → Option (Unit × Sto)) (x0 : Nat) (x1 : Nat) (x2 : Int32) (x3 : Int32) (y0 : Nat) (y1 : Int32) (y2 : Int32) (y3 : Int32) (σ : Sto) : Option (Unit × Sto) := (cb (fX5_put y0 y1 y2 y3 σ) fun _ σ8 => (fX5_keepOf_b79 K7 x0 x1 x2 x3 σ8))
set_option maxHeartbeats 2000000 in
theorem sX5_keepOf_b76 {G : GP} {n0 : Nat} {K7 : Nat → Nat → Int32 → Int32 → Sto → Option (Unit × Sto)} (hK7 : ∀ (x0 : Nat) (x1 : Nat) (x2 : Int32) (x3 : Int32) (σ : Sto), Sim G mX5_keepOf 2 0 0 n0 jV 0 0 7 [(0, .ref x0), (1, .ref x1), (2, .int x2), (3, .int x3)] [] σ (K7 x0 x1 x2 x3 σ)) : ∀ (x0 : Nat) (x1 : Nat) (x2 : Int32) (x3 : Int32) (y0 : Nat) (y1 : Int32) (y2 : Int32) (y3 : Int32) (σ : Sto), Sim G mX5_keepOf 2 0 0 n0 jV 0 0 76 [(0, .ref x0), (1, .ref x1), (2, .int x2), (3, .int x3)] [.int y3, .int y2, .int y1, .ref y0] σ (fX5_keepOf_b76 K7 x0 x1 x2 x3 y0 y1 y2 y3 σ) := by
  intro x0 x1 x2 x3 y0 y1 y2 y3 σ
  unfold fX5_keepOf_b76
  refine hj_callV (ci := 5) (M' := mX5_put) (h' := 1) (As := [.int y1, .int y2, .int y3]) mfX5_put mvX5_put ⟨_, _, rfl⟩ mlX5_32 dX5_keepOf_76 (kX5_put G _ _ _ _ _) (fun _ hr => cX5_putk hr) ⟨Nat.le_of_ble_eq_true rfl, Nat.le_of_ble_eq_true rfl⟩ ⟨Nat.le_refl _, Nat.le_refl _⟩ rfl (Nat.le_of_ble_eq_true rfl) (fun _ σ8 _ => ?_)
  refine hj_loc (lv' := [(0, .ref x0), (1, .ref x1), (2, .int x2), (3, .int x3)]) [0, 1, 2, 3] rfl ?_
  exact sX5_keepOf_b79 hK7 _ _ _ _ _
def fX5_keepOf_b75 (K7 : Nat → Nat → Int32 → Int32 → Sto → Option (Unit × Sto)) (x0 : Nat) (x1 : Nat) (x2 : Int32) (x3 : Int32) (y0 : Nat) (y1 : Int32) (y2 : Int32) (σ : Sto) : Option (Unit × Sto) := (fX5_keepOf_b76 K7 x0 x1 x2 x3 y0 y1 y2 ((0 : Int32)) σ)
set_option maxHeartbeats 2000000 in
theorem sX5_keepOf_b75 {G : GP} {n0 : Nat} {K7 : Nat → Nat → Int32 → Int32 → Sto → Option (Unit × Sto)} (hK7 : ∀ (x0 : Nat) (x1 : Nat) (x2 : Int32) (x3 : Int32) (σ : Sto), Sim G mX5_keepOf 2 0 0 n0 jV 0 0 7 [(0, .ref x0), (1, .ref x1), (2, .int x2), (3, .int x3)] [] σ (K7 x0 x1 x2 x3 σ)) : ∀ (x0 : Nat) (x1 : Nat) (x2 : Int32) (x3 : Int32) (y0 : Nat) (y1 : Int32) (y2 : Int32) (σ : Sto), Sim G mX5_keepOf 2 0 0 n0 jV 0 0 75 [(0, .ref x0), (1, .ref x1), (2, .int x2), (3, .int x3)] [.int y2, .int y1, .ref y0] σ (fX5_keepOf_b75 K7 x0 x1 x2 x3 y0 y1 y2 σ) := by
  intro x0 x1 x2 x3 y0 y1 y2 σ
  unfold fX5_keepOf_b75
  refine hj_iconst (0 : Int32) dX5_keepOf_75 (by decide) ?_
  refine hj_loc (lv' := [(0, .ref x0), (1, .ref x1), (2, .int x2), (3, .int x3)]) [0, 1, 2, 3] rfl ?_
  exact sX5_keepOf_b76 hK7 _ _ _ _ _ _ _ _ _
def fX5_keepOf_b34 (K7 : Nat → Nat → Int32 → Int32 → Sto → Option (Unit × Sto)) (x0 : Nat) (x1 : Nat) (x2 : Int32) (x3 : Int32) (y0 : Int32) (σ : Sto) : Option (Unit × Sto) := (if (x2 &&& ((((1 : Int32)) <<< (x3 &&& 31)))) = 0 then (fX5_keepOf_b79 K7 x0 x1 x2 x3 σ) else ((gR σ 5 x1 1).bind fun t1 => ((aI σ 2 t1 x3).bind fun t2 => ((gR σ 5 x1 2).bind fun t3 => ((aI σ 2 t3 x3).bind fun t4 => ((gR σ 5 x1 3).bind fun t5 => ((aI σ 4 t5 x3).bind fun t6 => (if t6 = 0 then (fX5_keepOf_b75 K7 x0 x1 x2 x3 x0 t2 t4 σ) else (if y0 = 0 then (fX5_keepOf_b75 K7 x0 x1 x2 x3 x0 t2 t4 σ) else (fX5_keepOf_b76 K7 x0 x1 x2 x3 x0 t2 t4 ((1 : Int32)) σ))))))))))
set_option maxHeartbeats 2000000 in
theorem sX5_keepOf_b34 {G : GP} {n0 : Nat} {K7 : Nat → Nat → Int32 → Int32 → Sto → Option (Unit × Sto)} (hK7 : ∀ (x0 : Nat) (x1 : Nat) (x2 : Int32) (x3 : Int32) (σ : Sto), Sim G mX5_keepOf 2 0 0 n0 jV 0 0 7 [(0, .ref x0), (1, .ref x1), (2, .int x2), (3, .int x3)] [] σ (K7 x0 x1 x2 x3 σ)) : ∀ (x0 : Nat) (x1 : Nat) (x2 : Int32) (x3 : Int32) (y0 : Int32) (σ : Sto), Sim G mX5_keepOf 2 0 0 n0 jV 0 0 34 [(0, .ref x0), (1, .ref x1), (2, .int x2), (3, .int x3)] [.int y0] σ (fX5_keepOf_b34 K7 x0 x1 x2 x3 y0 σ) := by
  intro x0 x1 x2 x3 y0 σ
  unfold fX5_keepOf_b34
  refine hj_istore (lv' := [(0, .ref x0), (1, .ref x1), (2, .int x2), (3, .int x3), (4, .int y0)]) dX5_keepOf_34 (by decide) [1, 2, 3, 4, 0] rfl ?_
  refine hj_iload_n 2 dX5_keepOf_36 rfl ?_
  refine hj_iconst (1 : Int32) dX5_keepOf_37 (by decide) ?_
  refine hj_iload_n 3 dX5_keepOf_38 rfl ?_
  refine hj_ishl dX5_keepOf_39 ?_
  refine hj_iand dX5_keepOf_40 ?_
  refine hj_if_eq 79 dX5_keepOf_41 (by decide) (fun _ => ?_) (fun _ => ?_)
  · refine hj_loc (lv' := [(0, .ref x0), (1, .ref x1), (2, .int x2), (3, .int x3)]) [0, 1, 2, 3] rfl ?_
    exact sX5_keepOf_b79 hK7 _ _ _ _ _
  · refine hj_aload_n 0 dX5_keepOf_44 rfl ?_
    refine hj_aload_n 1 dX5_keepOf_45 rfl ?_
    refine hj_getR flX5_15 dX5_keepOf_46 (fun t1 _ => ?_)
    refine hj_iload_n 3 dX5_keepOf_49 rfl ?_
    refine hj_iald dX5_keepOf_50 (fun t2 _ => ?_)
    refine hj_aload_n 1 dX5_keepOf_51 rfl ?_
    refine hj_getR flX5_19 dX5_keepOf_52 (fun t3 _ => ?_)
    refine hj_iload_n 3 dX5_keepOf_55 rfl ?_
    refine hj_iald dX5_keepOf_56 (fun t4 _ => ?_)
    refine hj_aload_n 1 dX5_keepOf_57 rfl ?_
    refine hj_getR flX5_22 dX5_keepOf_58 (fun t5 _ => ?_)
    refine hj_iload_n 3 dX5_keepOf_61 rfl ?_
    refine hj_zald dX5_keepOf_62 (fun t6 _ => ?_)
    refine hj_if_eq 75 dX5_keepOf_63 (by decide) (fun _ => ?_) (fun _ => ?_)
    · refine hj_loc (lv' := [(0, .ref x0), (1, .ref x1), (2, .int x2), (3, .int x3)]) [0, 1, 2, 3] rfl ?_
      exact sX5_keepOf_b75 hK7 _ _ _ _ _ _ _ _
    · refine hj_iload 4 dX5_keepOf_66 rfl ?_
      refine hj_if_eq 75 dX5_keepOf_68 (by decide) (fun _ => ?_) (fun _ => ?_)
      · refine hj_loc (lv' := [(0, .ref x0), (1, .ref x1), (2, .int x2), (3, .int x3)]) [0, 1, 2, 3] rfl ?_
        exact sX5_keepOf_b75 hK7 _ _ _ _ _ _ _ _
      · refine hj_iconst (1 : Int32) dX5_keepOf_71 (by decide) ?_
        refine hj_goto 76 dX5_keepOf_72 (by decide) ?_
        refine hj_loc (lv' := [(0, .ref x0), (1, .ref x1), (2, .int x2), (3, .int x3)]) [0, 1, 2, 3] rfl ?_
        exact sX5_keepOf_b76 hK7 _ _ _ _ _ _ _ _ _
def fX5_keepOf_b33 (K7 : Nat → Nat → Int32 → Int32 → Sto → Option (Unit × Sto)) (x0 : Nat) (x1 : Nat) (x2 : Int32) (x3 : Int32) (σ : Sto) : Option (Unit × Sto) := (fX5_keepOf_b34 K7 x0 x1 x2 x3 ((0 : Int32)) σ)
set_option maxHeartbeats 2000000 in
theorem sX5_keepOf_b33 {G : GP} {n0 : Nat} {K7 : Nat → Nat → Int32 → Int32 → Sto → Option (Unit × Sto)} (hK7 : ∀ (x0 : Nat) (x1 : Nat) (x2 : Int32) (x3 : Int32) (σ : Sto), Sim G mX5_keepOf 2 0 0 n0 jV 0 0 7 [(0, .ref x0), (1, .ref x1), (2, .int x2), (3, .int x3)] [] σ (K7 x0 x1 x2 x3 σ)) : ∀ (x0 : Nat) (x1 : Nat) (x2 : Int32) (x3 : Int32) (σ : Sto), Sim G mX5_keepOf 2 0 0 n0 jV 0 0 33 [(0, .ref x0), (1, .ref x1), (2, .int x2), (3, .int x3)] [] σ (fX5_keepOf_b33 K7 x0 x1 x2 x3 σ) := by
  intro x0 x1 x2 x3 σ
  unfold fX5_keepOf_b33
  refine hj_iconst (0 : Int32) dX5_keepOf_33 (by decide) ?_
  refine hj_loc (lv' := [(0, .ref x0), (1, .ref x1), (2, .int x2), (3, .int x3)]) [0, 1, 2, 3] rfl ?_
  exact sX5_keepOf_b34 hK7 _ _ _ _ _ _
def fX5_keepOf_b7 : Nat → Nat → Nat → Int32 → Int32 → Sto → Option (Unit × Sto)
  | 0, _, _, _, _, _ => none
  | n + 1, x0, x1, x2, x3, σ => ((gI σ 5 x1 0).bind fun t7 => (if t7 ≤ x3 then (some ((), σ)) else (if x3 ≤ 0 then (fX5_keepOf_b33 (fX5_keepOf_b7 n) x0 x1 x2 x3 σ) else (if (x2 &&& ((((1 : Int32)) <<< (((x3 - ((1 : Int32)))) &&& 31)))) = 0 then (fX5_keepOf_b33 (fX5_keepOf_b7 n) x0 x1 x2 x3 σ) else (fX5_keepOf_b34 (fX5_keepOf_b7 n) x0 x1 x2 x3 ((1 : Int32)) σ)))))
set_option maxHeartbeats 2000000 in
theorem sX5_keepOf_b7 {G : GP} {n0 : Nat} : ∀ (n : Nat) (x0 : Nat) (x1 : Nat) (x2 : Int32) (x3 : Int32) (σ : Sto), Sim G mX5_keepOf 2 0 0 n0 jV 0 0 7 [(0, .ref x0), (1, .ref x1), (2, .int x2), (3, .int x3)] [] σ (fX5_keepOf_b7 n x0 x1 x2 x3 σ) := by
  intro n
  induction n with
  | zero => intros; rw [fX5_keepOf_b7]; exact hj_none
  | succ n ih =>
    intro x0 x1 x2 x3 σ
    rw [fX5_keepOf_b7]
    refine hj_iload_n 3 dX5_keepOf_7 rfl ?_
    refine hj_aload_n 1 dX5_keepOf_8 rfl ?_
    refine hj_getI flX5_9 dX5_keepOf_9 (fun t7 _ => ?_)
    refine hj_icmp_ge 85 dX5_keepOf_12 (by decide) (fun _ => ?_) (fun _ => ?_)
    · exact hj_vret dX5_keepOf_85 rfl rfl (Nat.le_refl _)
    · refine hj_iload_n 3 dX5_keepOf_15 rfl ?_
      refine hj_if_le 33 dX5_keepOf_16 (by decide) (fun _ => ?_) (fun _ => ?_)
      · refine hj_loc (lv' := [(0, .ref x0), (1, .ref x1), (2, .int x2), (3, .int x3)]) [0, 1, 2, 3] rfl ?_
        exact sX5_keepOf_b33 ih _ _ _ _ _
      · refine hj_iload_n 2 dX5_keepOf_19 rfl ?_
        refine hj_iconst (1 : Int32) dX5_keepOf_20 (by decide) ?_
        refine hj_iload_n 3 dX5_keepOf_21 rfl ?_
        refine hj_iconst (1 : Int32) dX5_keepOf_22 (by decide) ?_
        refine hj_isub dX5_keepOf_23 ?_
        refine hj_ishl dX5_keepOf_24 ?_
        refine hj_iand dX5_keepOf_25 ?_
        refine hj_if_eq 33 dX5_keepOf_26 (by decide) (fun _ => ?_) (fun _ => ?_)
        · refine hj_loc (lv' := [(0, .ref x0), (1, .ref x1), (2, .int x2), (3, .int x3)]) [0, 1, 2, 3] rfl ?_
          exact sX5_keepOf_b33 ih _ _ _ _ _
        · refine hj_iconst (1 : Int32) dX5_keepOf_29 (by decide) ?_
          refine hj_goto 34 dX5_keepOf_30 (by decide) ?_
          refine hj_loc (lv' := [(0, .ref x0), (1, .ref x1), (2, .int x2), (3, .int x3)]) [0, 1, 2, 3] rfl ?_
          exact sX5_keepOf_b34 ih _ _ _ _ _ _
def fX5_keepOf (a0 : Nat) (a1 : Nat) (a2 : Int32) (σ : Sto) : Option (Unit × Sto) := ck σ 5 a0 ((pV σ 5 a0 0 (.int ((0 : Int32)))).bind fun σ9 => (fX5_keepOf_b7 FU a0 a1 a2 ((0 : Int32)) σ9))
set_option maxHeartbeats 2000000 in
theorem kX5_keepOf (G : GP) (a0 : Nat) (a1 : Nat) (a2 : Int32) (σ : Sto) : Me G mX5_keepOf 2 0 0 jV [.ref a0, .ref a1, .int a2] σ (fX5_keepOf a0 a1 a2 σ) := by
  refine hs_me (lv := [(0, .ref a0), (1, .ref a1), (2, .int a2)]) (plainFor_of_name (by decide +kernel)) (Nat.le_of_ble_eq_true rfl) rfl ?_
  unfold fX5_keepOf
  refine hj_ck ?_
  refine hj_aload_n 0 dX5_keepOf_0 rfl ?_
  refine hj_iconst (0 : Int32) dX5_keepOf_1 (by decide) ?_
  refine hj_put (fpX5_9 _) (fun _ => rfl) (fun _ => rfl) dX5_keepOf_2 (fun σ9 _ => ?_)
  refine hj_iconst (0 : Int32) dX5_keepOf_5 (by decide) ?_
  refine hj_istore_n (lv' := [(0, .ref a0), (1, .ref a1), (2, .int a2), (3, .int (0 : Int32))]) dX5_keepOf_6 (by decide) [1, 2, 3, 0] rfl ?_
  refine hj_loc (lv' := [(0, .ref a0), (1, .ref a1), (2, .int a2), (3, .int (0 : Int32))]) [0, 1, 2, 3] rfl ?_
  exact sX5_keepOf_b7 _ _ _ _ _ _
theorem cX5_keepOfk {a0 : Nat} {a1 : Nat} {a2 : Int32} {σ : Sto} {r : Unit × Sto} (h : fX5_keepOf a0 a1 a2 σ = some r) : ∃ fs, hs_o σ 5 a0 = some fs := (ck_of h).1
def fX5_isHeldByGlue (a0 : Nat) (a1 : Int32) (σ : Sto) : Option (Int32 × Sto) := ck σ 5 a0 (if a1 ≤ 0 then (some ((0 : Int32), σ)) else ((gR σ 5 a0 3).bind fun t1 => ((aI σ 4 t1 a1).bind fun t2 => (if t2 = 0 then (some ((0 : Int32), σ)) else (some ((1 : Int32), σ))))))
set_option maxHeartbeats 2000000 in
theorem kX5_isHeldByGlue (G : GP) (a0 : Nat) (a1 : Int32) (σ : Sto) : Me G mX5_isHeldByGlue 1 0 0 jI [.ref a0, .int a1] σ (fX5_isHeldByGlue a0 a1 σ) := by
  refine hs_me (lv := [(0, .ref a0), (1, .int a1)]) (plainFor_of_name (by decide +kernel)) (Nat.le_of_ble_eq_true rfl) rfl ?_
  unfold fX5_isHeldByGlue
  refine hj_ck ?_
  refine hj_iload_n 1 dX5_isHeldByGlue_0 rfl ?_
  refine hj_if_le 17 dX5_isHeldByGlue_1 (by decide) (fun _ => ?_) (fun _ => ?_)
  · refine hj_iconst (0 : Int32) dX5_isHeldByGlue_17 (by decide) ?_
    exact hj_zret dX5_isHeldByGlue_18 rfl (by decide) rfl (Nat.le_refl _)
  · refine hj_aload_n 0 dX5_isHeldByGlue_4 rfl ?_
    refine hj_getR flX5_22 dX5_isHeldByGlue_5 (fun t1 _ => ?_)
    refine hj_iload_n 1 dX5_isHeldByGlue_8 rfl ?_
    refine hj_zald dX5_isHeldByGlue_9 (fun t2 _ => ?_)
    refine hj_if_eq 17 dX5_isHeldByGlue_10 (by decide) (fun _ => ?_) (fun _ => ?_)
    · refine hj_iconst (0 : Int32) dX5_isHeldByGlue_17 (by decide) ?_
      exact hj_zret dX5_isHeldByGlue_18 rfl (by decide) rfl (Nat.le_refl _)
    · refine hj_iconst (1 : Int32) dX5_isHeldByGlue_13 (by decide) ?_
      refine hj_goto 18 dX5_isHeldByGlue_14 (by decide) ?_
      exact hj_zret dX5_isHeldByGlue_18 rfl (by decide) rfl (Nat.le_refl _)
theorem cX5_isHeldByGluek {a0 : Nat} {a1 : Int32} {σ : Sto} {r : Int32 × Sto} (h : fX5_isHeldByGlue a0 a1 σ = some r) : ∃ fs, hs_o σ 5 a0 = some fs := (ck_of h).1
def fX5_restLeft_b20 (x0 : Nat) (x2 : Int32) (y0 : Int32) (σ : Sto) : Option (Int32 × Sto) := ((gR σ 5 x0 2).bind fun t1 => ((aI σ 2 t1 x2).bind fun t2 => (cb (fJ9_max_7cf53 y0 t2 σ) fun r4 σ3 => (some (r4, σ3)))))
set_option maxHeartbeats 2000000 in
theorem sX5_restLeft_b20 {G : GP} {n0 : Nat} : ∀ (x0 : Nat) (x2 : Int32) (y0 : Int32) (σ : Sto), Sim G mX5_restLeft 2 0 0 n0 jI 0 0 20 [(0, .ref x0), (2, .int x2)] [.int y0] σ (fX5_restLeft_b20 x0 x2 y0 σ) := by
  intro x0 x2 y0 σ
  unfold fX5_restLeft_b20
  refine hj_istore_n (lv' := [(0, .ref x0), (2, .int x2), (3, .int y0)]) dX5_restLeft_20 (by decide) [1, 2, 0] rfl ?_
  refine hj_iload_n 2 dX5_restLeft_21 rfl ?_
  refine hj_aload_n 0 dX5_restLeft_22 rfl ?_
  refine hj_getR flX5_19 dX5_restLeft_23 (fun t1 _ => ?_)
  refine hj_iload_n 1 dX5_restLeft_26 rfl ?_
  refine hj_iald dX5_restLeft_27 (fun t2 _ => ?_)
  refine hj_callS (M' := mJ9_max_7cf53) (h' := 1) (As := [.int y0, .int t2]) mfJ9_max_7cf53 msJ9_max_7cf53 mlX5_26 dX5_restLeft_28 (kJ9_max_7cf53 G _ _ _) ⟨Nat.le_of_ble_eq_true rfl, Nat.le_of_ble_eq_true rfl⟩ ⟨Nat.le_refl _, Nat.le_refl _⟩ rfl (Nat.le_of_ble_eq_true rfl) (fun r4 σ3 _ => ?_)
  exact hj_iret dX5_restLeft_31 rfl rfl (Nat.le_refl _)
def fX5_restLeft (a0 : Nat) (a1 : Nat) (a2 : Int32) (σ : Sto) : Option (Int32 × Sto) := ck σ 5 a0 (if a2 = 0 then ((gI σ 10 a1 9).bind fun t7 => (fX5_restLeft_b20 a0 a2 ((-t7)) σ)) else ((gR σ 5 a0 2).bind fun t5 => ((aI σ 2 t5 ((a2 - ((1 : Int32))))).bind fun t6 => (fX5_restLeft_b20 a0 a2 t6 σ))))
set_option maxHeartbeats 2000000 in
theorem kX5_restLeft (G : GP) (a0 : Nat) (a1 : Nat) (a2 : Int32) (σ : Sto) : Me G mX5_restLeft 2 0 0 jI [.ref a0, .ref a1, .int a2] σ (fX5_restLeft a0 a1 a2 σ) := by
  refine hs_me (lv := [(0, .ref a0), (1, .ref a1), (2, .int a2)]) (plainFor_of_name (by decide +kernel)) (Nat.le_of_ble_eq_true rfl) rfl ?_
  unfold fX5_restLeft
  refine hj_ck ?_
  refine hj_iload_n 2 dX5_restLeft_0 rfl ?_
  refine hj_if_ne 12 dX5_restLeft_1 (by decide) (fun _ => ?_) (fun _ => ?_)
  · refine hj_aload_n 0 dX5_restLeft_12 rfl ?_
    refine hj_getR flX5_19 dX5_restLeft_13 (fun t5 _ => ?_)
    refine hj_iload_n 2 dX5_restLeft_16 rfl ?_
    refine hj_iconst (1 : Int32) dX5_restLeft_17 (by decide) ?_
    refine hj_isub dX5_restLeft_18 ?_
    refine hj_iald dX5_restLeft_19 (fun t6 _ => ?_)
    refine hj_loc (lv' := [(0, .ref a0), (2, .int a2)]) [0, 2] rfl ?_
    exact sX5_restLeft_b20 _ _ _ _
  · refine hj_aload_n 1 dX5_restLeft_4 rfl ?_
    refine hj_getI flX5_36 dX5_restLeft_5 (fun t7 _ => ?_)
    refine hj_ineg dX5_restLeft_8 ?_
    refine hj_goto 20 dX5_restLeft_9 (by decide) ?_
    refine hj_loc (lv' := [(0, .ref a0), (2, .int a2)]) [0, 2] rfl ?_
    exact sX5_restLeft_b20 _ _ _ _
theorem cX5_restLeftk {a0 : Nat} {a1 : Nat} {a2 : Int32} {σ : Sto} {r : Int32 × Sto} (h : fX5_restLeft a0 a1 a2 σ = some r) : ∃ fs, hs_o σ 5 a0 = some fs := (ck_of h).1
def fX5_rightEnd (a0 : Nat) (a1 : Nat) (a2 : Int32) (σ : Sto) : Option (Int32 × Sto) := ck σ 5 a0 ((gR σ 5 a0 2).bind fun t1 => ((aI σ 2 t1 a2).bind fun t2 => ((gR σ 10 a1 2).bind fun t3 => ((gR σ 5 a0 1).bind fun t4 => ((aI σ 2 t4 a2).bind fun t5 => ((aI σ 2 t3 t5).bind fun t6 => (some ((t2 + t6), σ))))))))
set_option maxHeartbeats 2000000 in
theorem kX5_rightEnd (G : GP) (a0 : Nat) (a1 : Nat) (a2 : Int32) (σ : Sto) : Me G mX5_rightEnd 1 0 0 jI [.ref a0, .ref a1, .int a2] σ (fX5_rightEnd a0 a1 a2 σ) := by
  refine hs_me (lv := [(0, .ref a0), (1, .ref a1), (2, .int a2)]) (plainFor_of_name (by decide +kernel)) (Nat.le_of_ble_eq_true rfl) rfl ?_
  unfold fX5_rightEnd
  refine hj_ck ?_
  refine hj_aload_n 0 dX5_rightEnd_0 rfl ?_
  refine hj_getR flX5_19 dX5_rightEnd_1 (fun t1 _ => ?_)
  refine hj_iload_n 2 dX5_rightEnd_4 rfl ?_
  refine hj_iald dX5_rightEnd_5 (fun t2 _ => ?_)
  refine hj_aload_n 1 dX5_rightEnd_6 rfl ?_
  refine hj_getR flX5_48 dX5_rightEnd_7 (fun t3 _ => ?_)
  refine hj_aload_n 0 dX5_rightEnd_10 rfl ?_
  refine hj_getR flX5_15 dX5_rightEnd_11 (fun t4 _ => ?_)
  refine hj_iload_n 2 dX5_rightEnd_14 rfl ?_
  refine hj_iald dX5_rightEnd_15 (fun t5 _ => ?_)
  refine hj_iald dX5_rightEnd_16 (fun t6 _ => ?_)
  refine hj_iadd dX5_rightEnd_17 ?_
  exact hj_iret dX5_rightEnd_18 rfl rfl (Nat.le_refl _)
theorem cX5_rightEndk {a0 : Nat} {a1 : Nat} {a2 : Int32} {σ : Sto} {r : Int32 × Sto} (h : fX5_rightEnd a0 a1 a2 σ = some r) : ∃ fs, hs_o σ 5 a0 = some fs := (ck_of h).1
def fX5_restRight_b16 (x0 : Nat) (x1 : Nat) (x2 : Int32) (y0 : Int32) (σ : Sto) : Option (Int32 × Sto) := (cb (fX5_rightEnd x0 x1 x2 σ) fun r2 σ1 => (cb (fJ9_min_7cf53 y0 r2 σ1) fun r4 σ3 => (some (r4, σ3))))
set_option maxHeartbeats 2000000 in
theorem sX5_restRight_b16 {G : GP} {n0 : Nat} : ∀ (x0 : Nat) (x1 : Nat) (x2 : Int32) (y0 : Int32) (σ : Sto), Sim G mX5_restRight 2 0 0 n0 jI 0 0 16 [(0, .ref x0), (1, .ref x1), (2, .int x2)] [.int y0] σ (fX5_restRight_b16 x0 x1 x2 y0 σ) := by
  intro x0 x1 x2 y0 σ
  unfold fX5_restRight_b16
  refine hj_istore_n (lv' := [(0, .ref x0), (1, .ref x1), (2, .int x2), (3, .int y0)]) dX5_restRight_16 (by decide) [1, 2, 3, 0] rfl ?_
  refine hj_iload_n 3 dX5_restRight_17 rfl ?_
  refine hj_aload_n 0 dX5_restRight_18 rfl ?_
  refine hj_aload_n 1 dX5_restRight_19 rfl ?_
  refine hj_iload_n 2 dX5_restRight_20 rfl ?_
  refine hj_callV (ci := 5) (M' := mX5_rightEnd) (h' := 1) (As := [.ref x1, .int x2]) mfX5_rightEnd mvX5_rightEnd ⟨_, _, rfl⟩ mlX5_41 dX5_restRight_21 (kX5_rightEnd G _ _ _ _) (fun _ hr => cX5_rightEndk hr) ⟨Nat.le_of_ble_eq_true rfl, Nat.le_of_ble_eq_true rfl⟩ ⟨Nat.le_refl _, Nat.le_refl _⟩ rfl (Nat.le_of_ble_eq_true rfl) (fun r2 σ1 _ => ?_)
  refine hj_callS (M' := mJ9_min_7cf53) (h' := 1) (As := [.int y0, .int r2]) mfJ9_min_7cf53 msJ9_min_7cf53 mlX5_45 dX5_restRight_24 (kJ9_min_7cf53 G _ _ _) ⟨Nat.le_of_ble_eq_true rfl, Nat.le_of_ble_eq_true rfl⟩ ⟨Nat.le_refl _, Nat.le_refl _⟩ rfl (Nat.le_of_ble_eq_true rfl) (fun r4 σ3 _ => ?_)
  exact hj_iret dX5_restRight_27 rfl rfl (Nat.le_refl _)
def fX5_restRight (a0 : Nat) (a1 : Nat) (a2 : Int32) (σ : Sto) : Option (Int32 × Sto) := ck σ 5 a0 (if a2 = 0 then (fX5_restRight_b16 a0 a1 a2 ((0 : Int32)) σ) else (cb (fX5_rightEnd a0 a1 ((a2 - ((1 : Int32)))) σ) fun r6 σ5 => (fX5_restRight_b16 a0 a1 a2 r6 σ5)))
set_option maxHeartbeats 2000000 in
theorem kX5_restRight (G : GP) (a0 : Nat) (a1 : Nat) (a2 : Int32) (σ : Sto) : Me G mX5_restRight 2 0 0 jI [.ref a0, .ref a1, .int a2] σ (fX5_restRight a0 a1 a2 σ) := by
  refine hs_me (lv := [(0, .ref a0), (1, .ref a1), (2, .int a2)]) (plainFor_of_name (by decide +kernel)) (Nat.le_of_ble_eq_true rfl) rfl ?_
  unfold fX5_restRight
  refine hj_ck ?_
  refine hj_iload_n 2 dX5_restRight_0 rfl ?_
  refine hj_if_ne 8 dX5_restRight_1 (by decide) (fun _ => ?_) (fun _ => ?_)
  · refine hj_aload_n 0 dX5_restRight_8 rfl ?_
    refine hj_aload_n 1 dX5_restRight_9 rfl ?_
    refine hj_iload_n 2 dX5_restRight_10 rfl ?_
    refine hj_iconst (1 : Int32) dX5_restRight_11 (by decide) ?_
    refine hj_isub dX5_restRight_12 ?_
    refine hj_callV (ci := 5) (M' := mX5_rightEnd) (h' := 1) (As := [.ref a1, .int ((a2 - ((1 : Int32))))]) mfX5_rightEnd mvX5_rightEnd ⟨_, _, rfl⟩ mlX5_41 dX5_restRight_13 (kX5_rightEnd G _ _ _ _) (fun _ hr => cX5_rightEndk hr) ⟨Nat.le_of_ble_eq_true rfl, Nat.le_of_ble_eq_true rfl⟩ ⟨Nat.le_refl _, Nat.le_refl _⟩ rfl (Nat.le_of_ble_eq_true rfl) (fun r6 σ5 _ => ?_)
    refine hj_loc (lv' := [(0, .ref a0), (1, .ref a1), (2, .int a2)]) [0, 1, 2] rfl ?_
    exact sX5_restRight_b16 _ _ _ _ _
  · refine hj_iconst (0 : Int32) dX5_restRight_4 (by decide) ?_
    refine hj_goto 16 dX5_restRight_5 (by decide) ?_
    refine hj_loc (lv' := [(0, .ref a0), (1, .ref a1), (2, .int a2)]) [0, 1, 2] rfl ?_
    exact sX5_restRight_b16 _ _ _ _ _
theorem cX5_restRightk {a0 : Nat} {a1 : Nat} {a2 : Int32} {σ : Sto} {r : Int32 × Sto} (h : fX5_restRight a0 a1 a2 σ = some r) : ∃ fs, hs_o σ 5 a0 = some fs := (ck_of h).1
def fX5_twiceMiddle (a0 : Nat) (a1 : Nat) (a2 : Int32) (σ : Sto) : Option (Int32 × Sto) := ck σ 5 a0 ((gR σ 5 a0 2).bind fun t1 => ((aI σ 2 t1 a2).bind fun t2 => (cb (fX5_rightEnd a0 a1 a2 σ) fun r4 σ3 => (some ((t2 + r4), σ3)))))
set_option maxHeartbeats 2000000 in
theorem kX5_twiceMiddle (G : GP) (a0 : Nat) (a1 : Nat) (a2 : Int32) (σ : Sto) : Me G mX5_twiceMiddle 2 0 0 jI [.ref a0, .ref a1, .int a2] σ (fX5_twiceMiddle a0 a1 a2 σ) := by
  refine hs_me (lv := [(0, .ref a0), (1, .ref a1), (2, .int a2)]) (plainFor_of_name (by decide +kernel)) (Nat.le_of_ble_eq_true rfl) rfl ?_
  unfold fX5_twiceMiddle
  refine hj_ck ?_
  refine hj_aload_n 0 dX5_twiceMiddle_0 rfl ?_
  refine hj_getR flX5_19 dX5_twiceMiddle_1 (fun t1 _ => ?_)
  refine hj_iload_n 2 dX5_twiceMiddle_4 rfl ?_
  refine hj_iald dX5_twiceMiddle_5 (fun t2 _ => ?_)
  refine hj_aload_n 0 dX5_twiceMiddle_6 rfl ?_
  refine hj_aload_n 1 dX5_twiceMiddle_7 rfl ?_
  refine hj_iload_n 2 dX5_twiceMiddle_8 rfl ?_
  refine hj_callV (ci := 5) (M' := mX5_rightEnd) (h' := 1) (As := [.ref a1, .int a2]) mfX5_rightEnd mvX5_rightEnd ⟨_, _, rfl⟩ mlX5_41 dX5_twiceMiddle_9 (kX5_rightEnd G _ _ _ _) (fun _ hr => cX5_rightEndk hr) ⟨Nat.le_of_ble_eq_true rfl, Nat.le_of_ble_eq_true rfl⟩ ⟨Nat.le_refl _, Nat.le_refl _⟩ rfl (Nat.le_of_ble_eq_true rfl) (fun r4 σ3 _ => ?_)
  refine hj_iadd dX5_twiceMiddle_12 ?_
  exact hj_iret dX5_twiceMiddle_13 rfl rfl (Nat.le_refl _)
theorem cX5_twiceMiddlek {a0 : Nat} {a1 : Nat} {a2 : Int32} {σ : Sto} {r : Int32 × Sto} (h : fX5_twiceMiddle a0 a1 a2 σ = some r) : ∃ fs, hs_o σ 5 a0 = some fs := (ck_of h).1
def fX5_twiceFlyTurn (a0 : Nat) (a1 : Nat) (a2 : Int32) (σ : Sto) : Option (Int32 × Sto) := ck σ 5 a0 ((gR σ 5 a0 1).bind fun t1 => ((aI σ 2 t1 a2).bind fun t2 => ((gR σ 5 a0 2).bind fun t3 => ((aI σ 2 t3 a2).bind fun t4 => ((gR σ 10 a1 12).bind fun t5 => ((aI σ 2 t5 t2).bind fun t6 => ((gR σ 10 a1 13).bind fun t7 => ((aI σ 2 t7 t2).bind fun t8 => (some ((((2 : Int32)) * ((((t4 * t6)) + t8))), σ))))))))))
set_option maxHeartbeats 2000000 in
theorem kX5_twiceFlyTurn (G : GP) (a0 : Nat) (a1 : Nat) (a2 : Int32) (σ : Sto) : Me G mX5_twiceFlyTurn 1 0 0 jI [.ref a0, .ref a1, .int a2] σ (fX5_twiceFlyTurn a0 a1 a2 σ) := by
  refine hs_me (lv := [(0, .ref a0), (1, .ref a1), (2, .int a2)]) (plainFor_of_name (by decide +kernel)) (Nat.le_of_ble_eq_true rfl) rfl ?_
  unfold fX5_twiceFlyTurn
  refine hj_ck ?_
  refine hj_aload_n 0 dX5_twiceFlyTurn_0 rfl ?_
  refine hj_getR flX5_15 dX5_twiceFlyTurn_1 (fun t1 _ => ?_)
  refine hj_iload_n 2 dX5_twiceFlyTurn_4 rfl ?_
  refine hj_iald dX5_twiceFlyTurn_5 (fun t2 _ => ?_)
  refine hj_istore_n (lv' := [(0, .ref a0), (1, .ref a1), (2, .int a2), (3, .int t2)]) dX5_twiceFlyTurn_6 (by decide) [1, 2, 3, 0] rfl ?_
  refine hj_iconst (2 : Int32) dX5_twiceFlyTurn_7 (by decide) ?_
  refine hj_aload_n 0 dX5_twiceFlyTurn_8 rfl ?_
  refine hj_getR flX5_19 dX5_twiceFlyTurn_9 (fun t3 _ => ?_)
  refine hj_iload_n 2 dX5_twiceFlyTurn_12 rfl ?_
  refine hj_iald dX5_twiceFlyTurn_13 (fun t4 _ => ?_)
  refine hj_aload_n 1 dX5_twiceFlyTurn_14 rfl ?_
  refine hj_getR flX5_51 dX5_twiceFlyTurn_15 (fun t5 _ => ?_)
  refine hj_iload_n 3 dX5_twiceFlyTurn_18 rfl ?_
  refine hj_iald dX5_twiceFlyTurn_19 (fun t6 _ => ?_)
  refine hj_imul dX5_twiceFlyTurn_20 ?_
  refine hj_aload_n 1 dX5_twiceFlyTurn_21 rfl ?_
  refine hj_getR flX5_54 dX5_twiceFlyTurn_22 (fun t7 _ => ?_)
  refine hj_iload_n 3 dX5_twiceFlyTurn_25 rfl ?_
  refine hj_iald dX5_twiceFlyTurn_26 (fun t8 _ => ?_)
  refine hj_iadd dX5_twiceFlyTurn_27 ?_
  refine hj_imul dX5_twiceFlyTurn_28 ?_
  exact hj_iret dX5_twiceFlyTurn_29 rfl rfl (Nat.le_refl _)
theorem cX5_twiceFlyTurnk {a0 : Nat} {a1 : Nat} {a2 : Int32} {σ : Sto} {r : Int32 × Sto} (h : fX5_twiceFlyTurn a0 a1 a2 σ = some r) : ∃ fs, hs_o σ 5 a0 = some fs := (ck_of h).1
def fX6_divisor_b9 : Nat → Int64 → Int64 → Int32 → Sto → Option (Int64 × Sto)
  | 0, _, _, _, _ => none
  | n + 1, x4, x6, x8, σ => (if (200 : Int32) ≤ x8 then (some (x4, σ)) else (if (lg_cmp x6 ((0 : Int64))) = 0 then (some (x4, σ)) else (if x6 = 0 then none else (lt ((hs_remL x4 x6)) fun v1 => (fX6_divisor_b9 n x6 v1 (x8 + (1 : Int32)) σ)))))
set_option maxHeartbeats 2000000 in
theorem sX6_divisor_b9 {G : GP} {n0 : Nat} : ∀ (n : Nat) (x4 : Int64) (x6 : Int64) (x8 : Int32) (σ : Sto), Sim G mX6_divisor 1 0 0 n0 jL 0 0 9 [(4, .long x4), (6, .long x6), (8, .int x8)] [] σ (fX6_divisor_b9 n x4 x6 x8 σ) := by
  intro n
  induction n with
  | zero => intros; rw [fX6_divisor_b9]; exact hj_none
  | succ n ih =>
    intro x4 x6 x8 σ
    rw [fX6_divisor_b9]
    refine hj_iload 2 dX6_divisor_9 rfl ?_
    refine hj_sipush (200 : Int32) dX6_divisor_11 (by decide) ?_
    refine hj_icmp_ge 45 dX6_divisor_14 (by decide) (fun _ => ?_) (fun _ => ?_)
    · refine hj_lload 0 dX6_divisor_45 rfl ?_
      exact hj_lret dX6_divisor_47 rfl rfl (Nat.le_refl _)
    · refine hj_lload 1 dX6_divisor_17 rfl ?_
      refine hj_lconst (0 : Int64) dX6_divisor_19 (by decide) ?_
      refine hj_lcmp dX6_divisor_20 ?_
      refine hj_if_eq 45 dX6_divisor_21 (by decide) (fun _ => ?_) (fun _ => ?_)
      · refine hj_lload 0 dX6_divisor_45 rfl ?_
        exact hj_lret dX6_divisor_47 rfl rfl (Nat.le_refl _)
      · refine hj_lload 0 dX6_divisor_24 rfl ?_
        refine hj_lload 1 dX6_divisor_26 rfl ?_
        refine hj_lrem dX6_divisor_28 (fun _ => ?_)
        refine hj_ltJ (fun v1 _ => ?_)
        refine hj_lstore (lv' := [(4, .long x4), (6, .long x6), (8, .int x8), (9, .long v1)]) dX6_divisor_29 (by decide) [1, 2, 3, 0] rfl ?_
        refine hj_lload 1 dX6_divisor_31 rfl ?_
        refine hj_lstore (lv' := [(4, .long x6), (6, .long x6), (8, .int x8), (9, .long v1)]) dX6_divisor_33 (by decide) [0, 1, 2, 3] rfl ?_
        refine hj_lload 3 dX6_divisor_35 rfl ?_
        refine hj_lstore (lv' := [(4, .long x6), (6, .long v1), (8, .int x8), (9, .long v1)]) dX6_divisor_37 (by decide) [1, 0, 2, 3] rfl ?_
        refine hj_iinc (lv' := [(4, .long x6), (6, .long v1), (8, .int (x8 + (1 : Int32))), (9, .long v1)]) 2 (1 : Int32) dX6_divisor_39 rfl (by decide) (by decide) [1, 2, 0, 3] rfl ?_
        refine hj_goto 9 dX6_divisor_42 (by decide) ?_
        refine hj_loc (lv' := [(4, .long x6), (6, .long v1), (8, .int (x8 + (1 : Int32)))]) [0, 1, 2] rfl ?_
        exact ih _ _ _ _
def fX6_divisor (a0 : Int64) (a1 : Int64) (σ : Sto) : Option (Int64 × Sto) := (fX6_divisor_b9 FU a0 a1 ((0 : Int32)) σ)
set_option maxHeartbeats 2000000 in
theorem kX6_divisor (G : GP) (a0 : Int64) (a1 : Int64) (σ : Sto) : Me G mX6_divisor 1 0 0 jL [.long a0, .long a1] σ (fX6_divisor a0 a1 σ) := by
  refine hs_me (lv := [(0, .long a0), (2, .long a1)]) (plainFor_of_name (by decide +kernel)) (Nat.le_of_ble_eq_true rfl) rfl ?_
  unfold fX6_divisor
  refine hj_lload_n 0 dX6_divisor_0 rfl ?_
  refine hj_lstore (lv' := [(0, .long a0), (2, .long a1), (4, .long a0)]) dX6_divisor_1 (by decide) [1, 2, 0] rfl ?_
  refine hj_lload_n 1 dX6_divisor_3 rfl ?_
  refine hj_lstore (lv' := [(0, .long a0), (2, .long a1), (4, .long a0), (6, .long a1)]) dX6_divisor_4 (by decide) [1, 2, 3, 0] rfl ?_
  refine hj_iconst (0 : Int32) dX6_divisor_6 (by decide) ?_
  refine hj_istore (lv' := [(0, .long a0), (2, .long a1), (4, .long a0), (6, .long a1), (8, .int (0 : Int32))]) dX6_divisor_7 (by decide) [1, 2, 3, 4, 0] rfl ?_
  refine hj_loc (lv' := [(4, .long a0), (6, .long a1), (8, .int (0 : Int32))]) [2, 3, 4] rfl ?_
  exact sX6_divisor_b9 _ _ _ _ _
def fX6_become (a0 : Nat) (a1 : Int64) (a2 : Int64) (σ : Sto) : Option (Unit × Sto) := ck σ 6 a0 (cb (fJ9_abs_067f4 a1 σ) fun r2 σ1 => (cb (fX6_divisor r2 a2 σ1) fun r4 σ3 => (if (lg_cmp r4 ((0 : Int64))) ≤ 0 then (some ((), σ3)) else (if r4 = 0 then none else ((pV σ3 6 a0 0 (.long ((a1 / r4)))).bind fun σ5 => (if r4 = 0 then none else ((pV σ5 6 a0 1 (.long ((a2 / r4)))).bind fun σ6 => (some ((), σ6)))))))))
set_option maxHeartbeats 2000000 in
theorem kX6_become (G : GP) (a0 : Nat) (a1 : Int64) (a2 : Int64) (σ : Sto) : Me G mX6_become 2 0 0 jV [.ref a0, .long a1, .long a2] σ (fX6_become a0 a1 a2 σ) := by
  refine hs_me (lv := [(0, .ref a0), (1, .long a1), (3, .long a2)]) (plainFor_of_name (by decide +kernel)) (Nat.le_of_ble_eq_true rfl) rfl ?_
  unfold fX6_become
  refine hj_ck ?_
  refine hj_lload_n 1 dX6_become_0 rfl ?_
  refine hj_callS (M' := mJ9_abs_067f4) (h' := 1) (As := [.long a1]) mfJ9_abs_067f4 msJ9_abs_067f4 mlX6_16 dX6_become_1 (kJ9_abs_067f4 G _ _) ⟨Nat.le_of_ble_eq_true rfl, Nat.le_of_ble_eq_true rfl⟩ ⟨Nat.le_refl _, Nat.le_refl _⟩ rfl (Nat.le_of_ble_eq_true rfl) (fun r2 σ1 _ => ?_)
  refine hj_lload_n 2 dX6_become_4 rfl ?_
  refine hj_callS (M' := mX6_divisor) (h' := 1) (As := [.long r2, .long a2]) mfX6_divisor msX6_divisor mlX6_22 dX6_become_5 (kX6_divisor G _ _ _) ⟨Nat.le_of_ble_eq_true rfl, Nat.le_of_ble_eq_true rfl⟩ ⟨Nat.le_refl _, Nat.le_refl _⟩ rfl (Nat.le_of_ble_eq_true rfl) (fun r4 σ3 _ => ?_)
  refine hj_lstore (lv' := [(0, .ref a0), (1, .long a1), (3, .long a2), (5, .long r4)]) dX6_become_8 (by decide) [1, 2, 3, 0] rfl ?_
  refine hj_lload 3 dX6_become_10 rfl ?_
  refine hj_lconst (0 : Int64) dX6_become_12 (by decide) ?_
  refine hj_lcmp dX6_become_13 ?_
  refine hj_if_le 33 dX6_become_14 (by decide) (fun _ => ?_) (fun _ => ?_)
  · exact hj_vret dX6_become_33 rfl rfl (Nat.le_refl _)
  · refine hj_aload_n 0 dX6_become_17 rfl ?_
    refine hj_lload_n 1 dX6_become_18 rfl ?_
    refine hj_lload 3 dX6_become_19 rfl ?_
    refine hj_ldiv dX6_become_21 (fun _ => ?_)
    refine hj_put (fpX6_7 _) (fun _ => rfl) (fun _ => rfl) dX6_become_22 (fun σ5 _ => ?_)
    refine hj_aload_n 0 dX6_become_25 rfl ?_
    refine hj_lload_n 2 dX6_become_26 rfl ?_
    refine hj_lload 3 dX6_become_27 rfl ?_
    refine hj_ldiv dX6_become_29 (fun _ => ?_)
    refine hj_put (fpX6_13 _) (fun _ => rfl) (fun _ => rfl) dX6_become_30 (fun σ6 _ => ?_)
    exact hj_vret dX6_become_33 rfl rfl (Nat.le_refl _)
theorem cX6_becomek {a0 : Nat} {a1 : Int64} {a2 : Int64} {σ : Sto} {r : Unit × Sto} (h : fX6_become a0 a1 a2 σ = some r) : ∃ fs, hs_o σ 6 a0 = some fs := (ck_of h).1
def fX6_copyFrom (a0 : Nat) (a1 : Nat) (σ : Sto) : Option (Unit × Sto) := ck σ 6 a0 ((gL σ 6 a1 0).bind fun t1 => ((pV σ 6 a0 0 (.long t1)).bind fun σ2 => ((gL σ2 6 a1 1).bind fun t3 => ((pV σ2 6 a0 1 (.long t3)).bind fun σ4 => (some ((), σ4))))))
set_option maxHeartbeats 2000000 in
theorem kX6_copyFrom (G : GP) (a0 : Nat) (a1 : Nat) (σ : Sto) : Me G mX6_copyFrom 1 0 0 jV [.ref a0, .ref a1] σ (fX6_copyFrom a0 a1 σ) := by
  refine hs_me (lv := [(0, .ref a0), (1, .ref a1)]) (plainFor_of_name (by decide +kernel)) (Nat.le_of_ble_eq_true rfl) rfl ?_
  unfold fX6_copyFrom
  refine hj_ck ?_
  refine hj_aload_n 0 dX6_copyFrom_0 rfl ?_
  refine hj_aload_n 1 dX6_copyFrom_1 rfl ?_
  refine hj_getL flX6_7 dX6_copyFrom_2 (fun t1 _ => ?_)
  refine hj_put (fpX6_7 _) (fun _ => rfl) (fun _ => rfl) dX6_copyFrom_5 (fun σ2 _ => ?_)
  refine hj_aload_n 0 dX6_copyFrom_8 rfl ?_
  refine hj_aload_n 1 dX6_copyFrom_9 rfl ?_
  refine hj_getL flX6_13 dX6_copyFrom_10 (fun t3 _ => ?_)
  refine hj_put (fpX6_13 _) (fun _ => rfl) (fun _ => rfl) dX6_copyFrom_13 (fun σ4 _ => ?_)
  exact hj_vret dX6_copyFrom_16 rfl rfl (Nat.le_refl _)
theorem cX6_copyFromk {a0 : Nat} {a1 : Nat} {σ : Sto} {r : Unit × Sto} (h : fX6_copyFrom a0 a1 σ = some r) : ∃ fs, hs_o σ 6 a0 = some fs := (ck_of h).1
def fX6_add (a0 : Nat) (a1 : Int64) (a2 : Int64) (σ : Sto) : Option (Unit × Sto) := ck σ 6 a0 ((gL σ 6 a0 1).bind fun t1 => (cb (fX6_divisor t1 a2 σ) fun r3 σ2 => (if (lg_cmp r3 ((0 : Int64))) ≤ 0 then (some ((), σ2)) else (if r3 = 0 then none else (lt ((a2 / r3)) fun v4 => ((gL σ2 6 a0 0).bind fun t5 => ((gL σ2 6 a0 1).bind fun t6 => (if r3 = 0 then none else ((gL σ2 6 a0 1).bind fun t7 => (cb (fX6_become a0 ((((t5 * v4)) + ((a1 * ((t6 / r3)))))) ((t7 * v4)) σ2) fun _ σ8 => (some ((), σ8))))))))))))
set_option maxHeartbeats 2000000 in
theorem kX6_add (G : GP) (a0 : Nat) (a1 : Int64) (a2 : Int64) (σ : Sto) : Me G mX6_add 3 0 0 jV [.ref a0, .long a1, .long a2] σ (fX6_add a0 a1 a2 σ) := by
  refine hs_me (lv := [(0, .ref a0), (1, .long a1), (3, .long a2)]) (plainFor_of_name (by decide +kernel)) (Nat.le_of_ble_eq_true rfl) rfl ?_
  unfold fX6_add
  refine hj_ck ?_
  refine hj_aload_n 0 dX6_add_0 rfl ?_
  refine hj_getL flX6_13 dX6_add_1 (fun t1 _ => ?_)
  refine hj_lload_n 2 dX6_add_4 rfl ?_
  refine hj_callS (M' := mX6_divisor) (h' := 1) (As := [.long t1, .long a2]) mfX6_divisor msX6_divisor mlX6_22 dX6_add_5 (kX6_divisor G _ _ _) ⟨Nat.le_of_ble_eq_true rfl, Nat.le_of_ble_eq_true rfl⟩ ⟨Nat.le_refl _, Nat.le_refl _⟩ rfl (Nat.le_of_ble_eq_true rfl) (fun r3 σ2 _ => ?_)
  refine hj_lstore (lv' := [(0, .ref a0), (1, .long a1), (3, .long a2), (5, .long r3)]) dX6_add_8 (by decide) [1, 2, 3, 0] rfl ?_
  refine hj_lload 3 dX6_add_10 rfl ?_
  refine hj_lconst (0 : Int64) dX6_add_12 (by decide) ?_
  refine hj_lcmp dX6_add_13 ?_
  refine hj_if_le 51 dX6_add_14 (by decide) (fun _ => ?_) (fun _ => ?_)
  · exact hj_vret dX6_add_51 rfl rfl (Nat.le_refl _)
  · refine hj_lload_n 2 dX6_add_17 rfl ?_
    refine hj_lload 3 dX6_add_18 rfl ?_
    refine hj_ldiv dX6_add_20 (fun _ => ?_)
    refine hj_ltJ (fun v4 _ => ?_)
    refine hj_lstore (lv' := [(0, .ref a0), (1, .long a1), (3, .long a2), (5, .long r3), (7, .long v4)]) dX6_add_21 (by decide) [1, 2, 3, 4, 0] rfl ?_
    refine hj_aload_n 0 dX6_add_23 rfl ?_
    refine hj_aload_n 0 dX6_add_24 rfl ?_
    refine hj_getL flX6_7 dX6_add_25 (fun t5 _ => ?_)
    refine hj_lload 4 dX6_add_28 rfl ?_
    refine hj_lmul dX6_add_30 ?_
    refine hj_lload_n 1 dX6_add_31 rfl ?_
    refine hj_aload_n 0 dX6_add_32 rfl ?_
    refine hj_getL flX6_13 dX6_add_33 (fun t6 _ => ?_)
    refine hj_lload 3 dX6_add_36 rfl ?_
    refine hj_ldiv dX6_add_38 (fun _ => ?_)
    refine hj_lmul dX6_add_39 ?_
    refine hj_ladd dX6_add_40 ?_
    refine hj_aload_n 0 dX6_add_41 rfl ?_
    refine hj_getL flX6_13 dX6_add_42 (fun t7 _ => ?_)
    refine hj_lload 4 dX6_add_45 rfl ?_
    refine hj_lmul dX6_add_47 ?_
    refine hj_callV (ci := 6) (M' := mX6_become) (h' := 2) (As := [.long ((((t5 * v4)) + ((a1 * ((t6 / r3)))))), .long ((t7 * v4))]) mfX6_become mvX6_become ⟨_, _, rfl⟩ mlX6_26 dX6_add_48 (kX6_become G _ _ _ _) (fun _ hr => cX6_becomek hr) ⟨Nat.le_of_ble_eq_true rfl, Nat.le_of_ble_eq_true rfl⟩ ⟨Nat.le_refl _, Nat.le_refl _⟩ rfl (Nat.le_of_ble_eq_true rfl) (fun _ σ8 _ => ?_)
    exact hj_vret dX6_add_51 rfl rfl (Nat.le_refl _)
theorem cX6_addk {a0 : Nat} {a1 : Int64} {a2 : Int64} {σ : Sto} {r : Unit × Sto} (h : fX6_add a0 a1 a2 σ = some r) : ∃ fs, hs_o σ 6 a0 = some fs := (ck_of h).1
def fX6_part (a0 : Nat) (a1 : Int32) (σ : Sto) : Option (Int64 × Sto) := ck σ 6 a0 (if a1 = 0 then ((gL σ 6 a0 0).bind fun t1 => (some (t1, σ))) else ((gL σ 6 a0 1).bind fun t2 => (some (t2, σ))))
set_option maxHeartbeats 2000000 in
theorem kX6_part (G : GP) (a0 : Nat) (a1 : Int32) (σ : Sto) : Me G mX6_part 1 0 0 jL [.ref a0, .int a1] σ (fX6_part a0 a1 σ) := by
  refine hs_me (lv := [(0, .ref a0), (1, .int a1)]) (plainFor_of_name (by decide +kernel)) (Nat.le_of_ble_eq_true rfl) rfl ?_
  unfold fX6_part
  refine hj_ck ?_
  refine hj_iload_n 1 dX6_part_0 rfl ?_
  refine hj_if_eq 11 dX6_part_1 (by decide) (fun _ => ?_) (fun _ => ?_)
  · refine hj_aload_n 0 dX6_part_11 rfl ?_
    refine hj_getL flX6_7 dX6_part_12 (fun t1 _ => ?_)
    exact hj_lret dX6_part_15 rfl rfl (Nat.le_refl _)
  · refine hj_aload_n 0 dX6_part_4 rfl ?_
    refine hj_getL flX6_13 dX6_part_5 (fun t2 _ => ?_)
    refine hj_goto 15 dX6_part_8 (by decide) ?_
    exact hj_lret dX6_part_15 rfl rfl (Nat.le_refl _)
theorem cX6_partk {a0 : Nat} {a1 : Int32} {σ : Sto} {r : Int64 × Sto} (h : fX6_part a0 a1 σ = some r) : ∃ fs, hs_o σ 6 a0 = some fs := (ck_of h).1
def fX6_isMoreThan_b120 (x10 : Int32) (x12 : Int64) (x14 : Int64) (σ : Sto) : Option (Int32 × Sto) := (if x10 = 0 then (if (lg_cmp x12 x14) ≤ 0 then (some ((0 : Int32), σ)) else (some ((1 : Int32), σ))) else (if 0 ≤ (lg_cmp x12 x14) then (some ((0 : Int32), σ)) else (some ((1 : Int32), σ))))
set_option maxHeartbeats 2000000 in
theorem sX6_isMoreThan_b120 {G : GP} {n0 : Nat} : ∀ (x10 : Int32) (x12 : Int64) (x14 : Int64) (σ : Sto), Sim G mX6_isMoreThan 1 0 0 n0 jI 0 0 120 [(10, .int x10), (12, .long x12), (14, .long x14)] [] σ (fX6_isMoreThan_b120 x10 x12 x14 σ) := by
  intro x10 x12 x14 σ
  unfold fX6_isMoreThan_b120
  refine hj_iload 0 dX6_isMoreThan_120 rfl ?_
  refine hj_if_eq 141 dX6_isMoreThan_122 (by decide) (fun _ => ?_) (fun _ => ?_)
  · refine hj_lload 1 dX6_isMoreThan_141 rfl ?_
    refine hj_lload 2 dX6_isMoreThan_143 rfl ?_
    refine hj_lcmp dX6_isMoreThan_145 ?_
    refine hj_if_le 153 dX6_isMoreThan_146 (by decide) (fun _ => ?_) (fun _ => ?_)
    · refine hj_iconst (0 : Int32) dX6_isMoreThan_153 (by decide) ?_
      exact hj_zret dX6_isMoreThan_154 rfl (by decide) rfl (Nat.le_refl _)
    · refine hj_iconst (1 : Int32) dX6_isMoreThan_149 (by decide) ?_
      refine hj_goto 154 dX6_isMoreThan_150 (by decide) ?_
      exact hj_zret dX6_isMoreThan_154 rfl (by decide) rfl (Nat.le_refl _)
  · refine hj_lload 1 dX6_isMoreThan_125 rfl ?_
    refine hj_lload 2 dX6_isMoreThan_127 rfl ?_
    refine hj_lcmp dX6_isMoreThan_129 ?_
    refine hj_if_ge 137 dX6_isMoreThan_130 (by decide) (fun _ => ?_) (fun _ => ?_)
    · refine hj_iconst (0 : Int32) dX6_isMoreThan_137 (by decide) ?_
      refine hj_goto 154 dX6_isMoreThan_138 (by decide) ?_
      exact hj_zret dX6_isMoreThan_154 rfl (by decide) rfl (Nat.le_refl _)
    · refine hj_iconst (1 : Int32) dX6_isMoreThan_133 (by decide) ?_
      refine hj_goto 154 dX6_isMoreThan_134 (by decide) ?_
      exact hj_zret dX6_isMoreThan_154 rfl (by decide) rfl (Nat.le_refl _)
def fX6_isMoreThan_b180 (K29 : Int64 → Int64 → Int64 → Int64 → Int32 → Int32 → Sto → Option (Int32 × Sto)) (x2 : Int64) (x4 : Int64) (x6 : Int64) (x8 : Int64) (x11 : Int32) (y0 : Int32) (σ : Sto) : Option (Int32 × Sto) := (K29 x2 x4 x6 x8 y0 (x11 + (1 : Int32)) σ)
set_option maxHeartbeats 2000000 in
theorem sX6_isMoreThan_b180 {G : GP} {n0 : Nat} {K29 : Int64 → Int64 → Int64 → Int64 → Int32 → Int32 → Sto → Option (Int32 × Sto)} (hK29 : ∀ (x2 : Int64) (x4 : Int64) (x6 : Int64) (x8 : Int64) (x10 : Int32) (x11 : Int32) (σ : Sto), Sim G mX6_isMoreThan 1 0 0 n0 jI 0 0 29 [(2, .long x2), (4, .long x4), (6, .long x6), (8, .long x8), (10, .int x10), (11, .int x11)] [] σ (K29 x2 x4 x6 x8 x10 x11 σ)) : ∀ (x2 : Int64) (x4 : Int64) (x6 : Int64) (x8 : Int64) (x11 : Int32) (y0 : Int32) (σ : Sto), Sim G mX6_isMoreThan 1 0 0 n0 jI 0 0 180 [(2, .long x2), (4, .long x4), (6, .long x6), (8, .long x8), (11, .int x11)] [.int y0] σ (fX6_isMoreThan_b180 K29 x2 x4 x6 x8 x11 y0 σ) := by
  intro x2 x4 x6 x8 x11 y0 σ
  unfold fX6_isMoreThan_b180
  refine hj_istore (lv' := [(2, .long x2), (4, .long x4), (6, .long x6), (8, .long x8), (10, .int y0), (11, .int x11)]) dX6_isMoreThan_180 (by decide) [1, 2, 3, 4, 0, 5] rfl ?_
  refine hj_iinc (lv' := [(2, .long x2), (4, .long x4), (6, .long x6), (8, .long x8), (10, .int y0), (11, .int (x11 + (1 : Int32)))]) 5 (1 : Int32) dX6_isMoreThan_182 rfl (by decide) (by decide) [1, 2, 3, 4, 5, 0] rfl ?_
  refine hj_goto 29 dX6_isMoreThan_185 (by decide) ?_
  refine hj_loc (lv' := [(2, .long x2), (4, .long x4), (6, .long x6), (8, .long x8), (10, .int y0), (11, .int (x11 + (1 : Int32)))]) [0, 1, 2, 3, 4, 5] rfl ?_
  exact hK29 _ _ _ _ _ _ _
def fX6_isMoreThan_b82 (x10 : Int32) (y0 : Int32) (σ : Sto) : Option (Int32 × Sto) := (if y0 = x10 then (some ((0 : Int32), σ)) else (some ((1 : Int32), σ)))
set_option maxHeartbeats 2000000 in
theorem sX6_isMoreThan_b82 {G : GP} {n0 : Nat} : ∀ (x10 : Int32) (y0 : Int32) (σ : Sto), Sim G mX6_isMoreThan 1 0 0 n0 jI 0 0 82 [(10, .int x10)] [.int y0] σ (fX6_isMoreThan_b82 x10 y0 σ) := by
  intro x10 y0 σ
  unfold fX6_isMoreThan_b82
  refine hj_iload 0 dX6_isMoreThan_82 rfl ?_
  refine hj_icmp_eq 91 dX6_isMoreThan_84 (by decide) (fun _ => ?_) (fun _ => ?_)
  · refine hj_iconst (0 : Int32) dX6_isMoreThan_91 (by decide) ?_
    exact hj_zret dX6_isMoreThan_92 rfl (by decide) rfl (Nat.le_refl _)
  · refine hj_iconst (1 : Int32) dX6_isMoreThan_87 (by decide) ?_
    refine hj_goto 92 dX6_isMoreThan_88 (by decide) ?_
    exact hj_zret dX6_isMoreThan_92 rfl (by decide) rfl (Nat.le_refl _)
def fX6_isMoreThan_b64 (x2 : Int64) (x4 : Int64) (x6 : Int64) (x8 : Int64) (x10 : Int32) (σ : Sto) : Option (Int32 × Sto) := (if x4 = 0 then none else (if x8 = 0 then none else (if (lg_cmp ((x2 / x4)) ((x6 / x8))) ≤ 0 then (fX6_isMoreThan_b82 x10 ((0 : Int32)) σ) else (fX6_isMoreThan_b82 x10 ((1 : Int32)) σ))))
set_option maxHeartbeats 2000000 in
theorem sX6_isMoreThan_b64 {G : GP} {n0 : Nat} : ∀ (x2 : Int64) (x4 : Int64) (x6 : Int64) (x8 : Int64) (x10 : Int32) (σ : Sto), Sim G mX6_isMoreThan 1 0 0 n0 jI 0 0 64 [(2, .long x2), (4, .long x4), (6, .long x6), (8, .long x8), (10, .int x10)] [] σ (fX6_isMoreThan_b64 x2 x4 x6 x8 x10 σ) := by
  intro x2 x4 x6 x8 x10 σ
  unfold fX6_isMoreThan_b64
  refine hj_lload_n 0 dX6_isMoreThan_64 rfl ?_
  refine hj_lload 1 dX6_isMoreThan_65 rfl ?_
  refine hj_ldiv dX6_isMoreThan_67 (fun _ => ?_)
  refine hj_lload 2 dX6_isMoreThan_68 rfl ?_
  refine hj_lload 3 dX6_isMoreThan_70 rfl ?_
  refine hj_ldiv dX6_isMoreThan_72 (fun _ => ?_)
  refine hj_lcmp dX6_isMoreThan_73 ?_
  refine hj_if_le 81 dX6_isMoreThan_74 (by decide) (fun _ => ?_) (fun _ => ?_)
  · refine hj_iconst (0 : Int32) dX6_isMoreThan_81 (by decide) ?_
    refine hj_loc (lv' := [(10, .int x10)]) [4] rfl ?_
    exact sX6_isMoreThan_b82 _ _ _
  · refine hj_iconst (1 : Int32) dX6_isMoreThan_77 (by decide) ?_
    refine hj_goto 82 dX6_isMoreThan_78 (by decide) ?_
    refine hj_loc (lv' := [(10, .int x10)]) [4] rfl ?_
    exact sX6_isMoreThan_b82 _ _ _
def fX6_isMoreThan_b29 : Nat → Int64 → Int64 → Int64 → Int64 → Int32 → Int32 → Sto → Option (Int32 × Sto)
  | 0, _, _, _, _, _, _, _ => none
  | n + 1, x2, x4, x6, x8, x10, x11, σ => (if (200 : Int32) ≤ x11 then (some ((0 : Int32), σ)) else (if (lg_cmp x4 ((0 : Int64))) ≤ 0 then (some ((0 : Int32), σ)) else (if (lg_cmp x8 ((0 : Int64))) ≤ 0 then (some ((0 : Int32), σ)) else (if x4 = 0 then none else (if x8 = 0 then none else (if (lg_cmp ((x2 / x4)) ((x6 / x8))) = 0 then (if x4 = 0 then none else (lt ((hs_remL x2 x4)) fun v1 => (if x8 = 0 then none else (lt ((hs_remL x6 x8)) fun v2 => (if (lg_cmp v1 ((0 : Int64))) = 0 then (fX6_isMoreThan_b120 x10 v1 v2 σ) else (if (lg_cmp v2 ((0 : Int64))) = 0 then (fX6_isMoreThan_b120 x10 v1 v2 σ) else (if x10 = 0 then (fX6_isMoreThan_b180 (fX6_isMoreThan_b29 n) x4 v1 x8 v2 x11 ((1 : Int32)) σ) else (fX6_isMoreThan_b180 (fX6_isMoreThan_b29 n) x4 v1 x8 v2 x11 ((0 : Int32)) σ)))))))) else (fX6_isMoreThan_b64 x2 x4 x6 x8 x10 σ)))))))
set_option maxHeartbeats 2000000 in
theorem sX6_isMoreThan_b29 {G : GP} {n0 : Nat} : ∀ (n : Nat) (x2 : Int64) (x4 : Int64) (x6 : Int64) (x8 : Int64) (x10 : Int32) (x11 : Int32) (σ : Sto), Sim G mX6_isMoreThan 1 0 0 n0 jI 0 0 29 [(2, .long x2), (4, .long x4), (6, .long x6), (8, .long x8), (10, .int x10), (11, .int x11)] [] σ (fX6_isMoreThan_b29 n x2 x4 x6 x8 x10 x11 σ) := by
  intro n
  induction n with
  | zero => intros; rw [fX6_isMoreThan_b29]; exact hj_none
  | succ n ih =>
    intro x2 x4 x6 x8 x10 x11 σ
    rw [fX6_isMoreThan_b29]
    refine hj_iload 5 dX6_isMoreThan_29 rfl ?_
    refine hj_sipush (200 : Int32) dX6_isMoreThan_31 (by decide) ?_
    refine hj_icmp_ge 188 dX6_isMoreThan_34 (by decide) (fun _ => ?_) (fun _ => ?_)
    · refine hj_iconst (0 : Int32) dX6_isMoreThan_188 (by decide) ?_
      exact hj_zret dX6_isMoreThan_189 rfl (by decide) rfl (Nat.le_refl _)
    · refine hj_lload 1 dX6_isMoreThan_37 rfl ?_
      refine hj_lconst (0 : Int64) dX6_isMoreThan_39 (by decide) ?_
      refine hj_lcmp dX6_isMoreThan_40 ?_
      refine hj_if_le 188 dX6_isMoreThan_41 (by decide) (fun _ => ?_) (fun _ => ?_)
      · refine hj_iconst (0 : Int32) dX6_isMoreThan_188 (by decide) ?_
        exact hj_zret dX6_isMoreThan_189 rfl (by decide) rfl (Nat.le_refl _)
      · refine hj_lload 3 dX6_isMoreThan_44 rfl ?_
        refine hj_lconst (0 : Int64) dX6_isMoreThan_46 (by decide) ?_
        refine hj_lcmp dX6_isMoreThan_47 ?_
        refine hj_if_le 188 dX6_isMoreThan_48 (by decide) (fun _ => ?_) (fun _ => ?_)
        · refine hj_iconst (0 : Int32) dX6_isMoreThan_188 (by decide) ?_
          exact hj_zret dX6_isMoreThan_189 rfl (by decide) rfl (Nat.le_refl _)
        · refine hj_lload_n 0 dX6_isMoreThan_51 rfl ?_
          refine hj_lload 1 dX6_isMoreThan_52 rfl ?_
          refine hj_ldiv dX6_isMoreThan_54 (fun _ => ?_)
          refine hj_lload 2 dX6_isMoreThan_55 rfl ?_
          refine hj_lload 3 dX6_isMoreThan_57 rfl ?_
          refine hj_ldiv dX6_isMoreThan_59 (fun _ => ?_)
          refine hj_lcmp dX6_isMoreThan_60 ?_
          refine hj_if_eq 93 dX6_isMoreThan_61 (by decide) (fun _ => ?_) (fun _ => ?_)
          · refine hj_lload_n 0 dX6_isMoreThan_93 rfl ?_
            refine hj_lload 1 dX6_isMoreThan_94 rfl ?_
            refine hj_lrem dX6_isMoreThan_96 (fun _ => ?_)
            refine hj_ltJ (fun v1 _ => ?_)
            refine hj_lstore (lv' := [(2, .long x2), (4, .long x4), (6, .long x6), (8, .long x8), (10, .int x10), (11, .int x11), (12, .long v1)]) dX6_isMoreThan_97 (by decide) [1, 2, 3, 4, 5, 6, 0] rfl ?_
            refine hj_lload 2 dX6_isMoreThan_99 rfl ?_
            refine hj_lload 3 dX6_isMoreThan_101 rfl ?_
            refine hj_lrem dX6_isMoreThan_103 (fun _ => ?_)
            refine hj_ltJ (fun v2 _ => ?_)
            refine hj_lstore (lv' := [(2, .long x2), (4, .long x4), (6, .long x6), (8, .long x8), (10, .int x10), (11, .int x11), (12, .long v1), (14, .long v2)]) dX6_isMoreThan_104 (by decide) [1, 2, 3, 4, 5, 6, 7, 0] rfl ?_
            refine hj_lload 6 dX6_isMoreThan_106 rfl ?_
            refine hj_lconst (0 : Int64) dX6_isMoreThan_108 (by decide) ?_
            refine hj_lcmp dX6_isMoreThan_109 ?_
            refine hj_if_eq 120 dX6_isMoreThan_110 (by decide) (fun _ => ?_) (fun _ => ?_)
            · refine hj_loc (lv' := [(10, .int x10), (12, .long v1), (14, .long v2)]) [4, 6, 7] rfl ?_
              exact sX6_isMoreThan_b120 _ _ _ _
            · refine hj_lload 7 dX6_isMoreThan_113 rfl ?_
              refine hj_lconst (0 : Int64) dX6_isMoreThan_115 (by decide) ?_
              refine hj_lcmp dX6_isMoreThan_116 ?_
              refine hj_if_ne 155 dX6_isMoreThan_117 (by decide) (fun _ => ?_) (fun _ => ?_)
              · refine hj_lload 1 dX6_isMoreThan_155 rfl ?_
                refine hj_lstore_n (lv' := [(2, .long x4), (4, .long x4), (6, .long x6), (8, .long x8), (10, .int x10), (11, .int x11), (12, .long v1), (14, .long v2)]) dX6_isMoreThan_157 (by decide) [0, 1, 2, 3, 4, 5, 6, 7] rfl ?_
                refine hj_lload 6 dX6_isMoreThan_158 rfl ?_
                refine hj_lstore (lv' := [(2, .long x4), (4, .long v1), (6, .long x6), (8, .long x8), (10, .int x10), (11, .int x11), (12, .long v1), (14, .long v2)]) dX6_isMoreThan_160 (by decide) [1, 0, 2, 3, 4, 5, 6, 7] rfl ?_
                refine hj_lload 3 dX6_isMoreThan_162 rfl ?_
                refine hj_lstore (lv' := [(2, .long x4), (4, .long v1), (6, .long x8), (8, .long x8), (10, .int x10), (11, .int x11), (12, .long v1), (14, .long v2)]) dX6_isMoreThan_164 (by decide) [1, 2, 0, 3, 4, 5, 6, 7] rfl ?_
                refine hj_lload 7 dX6_isMoreThan_166 rfl ?_
                refine hj_lstore (lv' := [(2, .long x4), (4, .long v1), (6, .long x8), (8, .long v2), (10, .int x10), (11, .int x11), (12, .long v1), (14, .long v2)]) dX6_isMoreThan_168 (by decide) [1, 2, 3, 0, 4, 5, 6, 7] rfl ?_
                refine hj_iload 4 dX6_isMoreThan_170 rfl ?_
                refine hj_if_ne 179 dX6_isMoreThan_172 (by decide) (fun _ => ?_) (fun _ => ?_)
                · refine hj_iconst (0 : Int32) dX6_isMoreThan_179 (by decide) ?_
                  refine hj_loc (lv' := [(2, .long x4), (4, .long v1), (6, .long x8), (8, .long v2), (11, .int x11)]) [0, 1, 2, 3, 5] rfl ?_
                  exact sX6_isMoreThan_b180 ih _ _ _ _ _ _ _
                · refine hj_iconst (1 : Int32) dX6_isMoreThan_175 (by decide) ?_
                  refine hj_goto 180 dX6_isMoreThan_176 (by decide) ?_
                  refine hj_loc (lv' := [(2, .long x4), (4, .long v1), (6, .long x8), (8, .long v2), (11, .int x11)]) [0, 1, 2, 3, 5] rfl ?_
                  exact sX6_isMoreThan_b180 ih _ _ _ _ _ _ _
              · refine hj_loc (lv' := [(10, .int x10), (12, .long v1), (14, .long v2)]) [4, 6, 7] rfl ?_
                exact sX6_isMoreThan_b120 _ _ _ _
          · refine hj_loc (lv' := [(2, .long x2), (4, .long x4), (6, .long x6), (8, .long x8), (10, .int x10)]) [0, 1, 2, 3, 4] rfl ?_
            exact sX6_isMoreThan_b64 _ _ _ _ _ _
def fX6_isMoreThan (a0 : Nat) (a1 : Nat) (σ : Sto) : Option (Int32 × Sto) := ck σ 6 a0 ((gL σ 6 a0 0).bind fun t3 => ((gL σ 6 a0 1).bind fun t4 => ((gL σ 6 a1 0).bind fun t5 => ((gL σ 6 a1 1).bind fun t6 => (fX6_isMoreThan_b29 FU t3 t4 t5 t6 ((0 : Int32)) ((0 : Int32)) σ)))))
set_option maxHeartbeats 2000000 in
theorem kX6_isMoreThan (G : GP) (a0 : Nat) (a1 : Nat) (σ : Sto) : Me G mX6_isMoreThan 1 0 0 jI [.ref a0, .ref a1] σ (fX6_isMoreThan a0 a1 σ) := by
  refine hs_me (lv := [(0, .ref a0), (1, .ref a1)]) (plainFor_of_name (by decide +kernel)) (Nat.le_of_ble_eq_true rfl) rfl ?_
  unfold fX6_isMoreThan
  refine hj_ck ?_
  refine hj_aload_n 0 dX6_isMoreThan_0 rfl ?_
  refine hj_getL flX6_7 dX6_isMoreThan_1 (fun t3 _ => ?_)
  refine hj_lstore_n (lv' := [(0, .ref a0), (1, .ref a1), (2, .long t3)]) dX6_isMoreThan_4 (by decide) [1, 2, 0] rfl ?_
  refine hj_aload_n 0 dX6_isMoreThan_5 rfl ?_
  refine hj_getL flX6_13 dX6_isMoreThan_6 (fun t4 _ => ?_)
  refine hj_lstore (lv' := [(0, .ref a0), (1, .ref a1), (2, .long t3), (4, .long t4)]) dX6_isMoreThan_9 (by decide) [1, 2, 3, 0] rfl ?_
  refine hj_aload_n 1 dX6_isMoreThan_11 rfl ?_
  refine hj_getL flX6_7 dX6_isMoreThan_12 (fun t5 _ => ?_)
  refine hj_lstore (lv' := [(0, .ref a0), (1, .ref a1), (2, .long t3), (4, .long t4), (6, .long t5)]) dX6_isMoreThan_15 (by decide) [1, 2, 3, 4, 0] rfl ?_
  refine hj_aload_n 1 dX6_isMoreThan_17 rfl ?_
  refine hj_getL flX6_13 dX6_isMoreThan_18 (fun t6 _ => ?_)
  refine hj_lstore (lv' := [(0, .ref a0), (1, .ref a1), (2, .long t3), (4, .long t4), (6, .long t5), (8, .long t6)]) dX6_isMoreThan_21 (by decide) [1, 2, 3, 4, 5, 0] rfl ?_
  refine hj_iconst (0 : Int32) dX6_isMoreThan_23 (by decide) ?_
  refine hj_istore (lv' := [(0, .ref a0), (1, .ref a1), (2, .long t3), (4, .long t4), (6, .long t5), (8, .long t6), (10, .int (0 : Int32))]) dX6_isMoreThan_24 (by decide) [1, 2, 3, 4, 5, 6, 0] rfl ?_
  refine hj_iconst (0 : Int32) dX6_isMoreThan_26 (by decide) ?_
  refine hj_istore (lv' := [(0, .ref a0), (1, .ref a1), (2, .long t3), (4, .long t4), (6, .long t5), (8, .long t6), (10, .int (0 : Int32)), (11, .int (0 : Int32))]) dX6_isMoreThan_27 (by decide) [1, 2, 3, 4, 5, 6, 7, 0] rfl ?_
  refine hj_loc (lv' := [(2, .long t3), (4, .long t4), (6, .long t5), (8, .long t6), (10, .int (0 : Int32)), (11, .int (0 : Int32))]) [2, 3, 4, 5, 6, 7] rfl ?_
  exact sX6_isMoreThan_b29 _ _ _ _ _ _ _ _
theorem cX6_isMoreThank {a0 : Nat} {a1 : Nat} {σ : Sto} {r : Int32 × Sto} (h : fX6_isMoreThan a0 a1 σ = some r) : ∃ fs, hs_o σ 6 a0 = some fs := (ck_of h).1
