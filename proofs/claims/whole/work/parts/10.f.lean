def fX3_fail (a0 : Nat) (a1 : Int32) (σ : Sto) : Option (Unit × Sto) := ck σ 3 a0 ((gI σ 3 a0 3).bind fun t1 => (if t1 = 0 then ((pV σ 3 a0 3 (.int a1)).bind fun σ2 => ((gR σ2 3 a0 0).bind fun t3 => ((gR σ2 9 t3 2).bind fun t4 => ((gI σ2 3 a0 2).bind fun t5 => ((aI σ2 2 t4 t5).bind fun t6 => ((pV σ2 3 a0 4 (.int t6)).bind fun σ7 => (some ((), σ7)))))))) else (some ((), σ))))
set_option maxHeartbeats 2000000 in
theorem kX3_fail (G : GP) (a0 : Nat) (a1 : Int32) (σ : Sto) : Me G mX3_fail 1 0 0 jV [.ref a0, .int a1] σ (fX3_fail a0 a1 σ) := by
  refine hs_me (lv := [(0, .ref a0), (1, .int a1)]) (plainFor_of_name (by decide +kernel)) (Nat.le_of_ble_eq_true rfl) rfl ?_
  unfold fX3_fail
  refine hj_ck ?_
  refine hj_aload_n 0 dX3_fail_0 rfl ?_
  refine hj_getI flX3_15 dX3_fail_1 (fun t1 _ => ?_)
  refine hj_if_ne 28 dX3_fail_4 (by decide) (fun _ => ?_) (fun _ => ?_)
  · exact hj_vret dX3_fail_28 rfl rfl (Nat.le_refl _)
  · refine hj_aload_n 0 dX3_fail_7 rfl ?_
    refine hj_iload_n 1 dX3_fail_8 rfl ?_
    refine hj_put (fpX3_15 _) (fun _ => rfl) (fun _ => rfl) dX3_fail_9 (fun σ2 _ => ?_)
    refine hj_aload_n 0 dX3_fail_12 rfl ?_
    refine hj_aload_n 0 dX3_fail_13 rfl ?_
    refine hj_getR flX3_33 dX3_fail_14 (fun t3 _ => ?_)
    refine hj_getR flX3_155 dX3_fail_17 (fun t4 _ => ?_)
    refine hj_aload_n 0 dX3_fail_20 rfl ?_
    refine hj_getI flX3_9 dX3_fail_21 (fun t5 _ => ?_)
    refine hj_iald dX3_fail_24 (fun t6 _ => ?_)
    refine hj_put (fpX3_18 _) (fun _ => rfl) (fun _ => rfl) dX3_fail_25 (fun σ7 _ => ?_)
    exact hj_vret dX3_fail_28 rfl rfl (Nat.le_refl _)
theorem cX3_failk {a0 : Nat} {a1 : Int32} {σ : Sto} {r : Unit × Sto} (h : fX3_fail a0 a1 σ = some r) : ∃ fs, hs_o σ 3 a0 = some fs := (ck_of h).1
def fX3_start (a0 : Nat) (a1 : Nat) (σ : Sto) : Option (Unit × Sto) := ck σ 3 a0 ((pV σ 3 a0 1 (.ref a1)).bind fun σ1 => ((gR σ1 3 a0 1).bind fun t2 => (cb (fX10_empty t2 σ1) fun _ σ3 => ((pV σ3 3 a0 2 (.int ((0 : Int32)))).bind fun σ4 => ((pV σ4 3 a0 3 (.int ((0 : Int32)))).bind fun σ5 => ((pV σ5 3 a0 4 (.int ((-1 : Int32)))).bind fun σ6 => ((pV σ6 3 a0 5 (.int ((0 : Int32)))).bind fun σ7 => ((pV σ7 3 a0 6 (.int ((-1 : Int32)))).bind fun σ8 => ((pV σ8 3 a0 7 (.int ((0 : Int32)))).bind fun σ9 => ((pV σ9 3 a0 8 (.int ((0 : Int32)))).bind fun σ10 => (some ((), σ10))))))))))))
set_option maxHeartbeats 2000000 in
theorem kX3_start (G : GP) (a0 : Nat) (a1 : Nat) (σ : Sto) : Me G mX3_start 2 0 0 jV [.ref a0, .ref a1] σ (fX3_start a0 a1 σ) := by
  refine hs_me (lv := [(0, .ref a0), (1, .ref a1)]) (plainFor_of_name (by decide +kernel)) (Nat.le_of_ble_eq_true rfl) rfl ?_
  unfold fX3_start
  refine hj_ck ?_
  refine hj_aload_n 0 dX3_start_0 rfl ?_
  refine hj_aload_n 1 dX3_start_1 rfl ?_
  refine hj_put (fpX3_37 _) (fun _ => rfl) (fun _ => rfl) dX3_start_2 (fun σ1 _ => ?_)
  refine hj_aload_n 0 dX3_start_5 rfl ?_
  refine hj_getR flX3_37 dX3_start_6 (fun t2 _ => ?_)
  refine hj_callV (ci := 10) (M' := mX10_empty) (h' := 1) (As := []) mfX10_empty mvX10_empty ⟨_, _, rfl⟩ mlX3_70 dX3_start_9 (kX10_empty G _ _) (fun _ hr => cX10_emptyk hr) ⟨Nat.le_of_ble_eq_true rfl, Nat.le_of_ble_eq_true rfl⟩ ⟨Nat.le_refl _, Nat.le_refl _⟩ rfl (Nat.le_of_ble_eq_true rfl) (fun _ σ3 _ => ?_)
  refine hj_aload_n 0 dX3_start_12 rfl ?_
  refine hj_iconst (0 : Int32) dX3_start_13 (by decide) ?_
  refine hj_put (fpX3_9 _) (fun _ => rfl) (fun _ => rfl) dX3_start_14 (fun σ4 _ => ?_)
  refine hj_aload_n 0 dX3_start_17 rfl ?_
  refine hj_iconst (0 : Int32) dX3_start_18 (by decide) ?_
  refine hj_put (fpX3_15 _) (fun _ => rfl) (fun _ => rfl) dX3_start_19 (fun σ5 _ => ?_)
  refine hj_aload_n 0 dX3_start_22 rfl ?_
  refine hj_iconst (-1 : Int32) dX3_start_23 (by decide) ?_
  refine hj_put (fpX3_18 _) (fun _ => rfl) (fun _ => rfl) dX3_start_24 (fun σ6 _ => ?_)
  refine hj_aload_n 0 dX3_start_27 rfl ?_
  refine hj_iconst (0 : Int32) dX3_start_28 (by decide) ?_
  refine hj_put (fpX3_21 _) (fun _ => rfl) (fun _ => rfl) dX3_start_29 (fun σ7 _ => ?_)
  refine hj_aload_n 0 dX3_start_32 rfl ?_
  refine hj_iconst (-1 : Int32) dX3_start_33 (by decide) ?_
  refine hj_put (fpX3_24 _) (fun _ => rfl) (fun _ => rfl) dX3_start_34 (fun σ8 _ => ?_)
  refine hj_aload_n 0 dX3_start_37 rfl ?_
  refine hj_iconst (0 : Int32) dX3_start_38 (by decide) ?_
  refine hj_put (fpX3_27 _) (fun _ => rfl) (fun _ => rfl) dX3_start_39 (fun σ9 _ => ?_)
  refine hj_aload_n 0 dX3_start_42 rfl ?_
  refine hj_iconst (0 : Int32) dX3_start_43 (by decide) ?_
  refine hj_put (fpX3_30 _) (fun _ => rfl) (fun _ => rfl) dX3_start_44 (fun σ10 _ => ?_)
  exact hj_vret dX3_start_47 rfl rfl (Nat.le_refl _)
theorem cX3_startk {a0 : Nat} {a1 : Nat} {σ : Sto} {r : Unit × Sto} (h : fX3_start a0 a1 σ = some r) : ∃ fs, hs_o σ 3 a0 = some fs := (ck_of h).1
def fX3_intAt (a0 : Nat) (a1 : Int32) (σ : Sto) : Option (Int32 × Sto) := ck σ 3 a0 ((gR σ 3 a0 0).bind fun t1 => ((gR σ 9 t1 3).bind fun t2 => ((aL σ 3 t2 a1).bind fun t3 => (some ((t3.toInt32), σ)))))
set_option maxHeartbeats 2000000 in
theorem kX3_intAt (G : GP) (a0 : Nat) (a1 : Int32) (σ : Sto) : Me G mX3_intAt 1 0 0 jI [.ref a0, .int a1] σ (fX3_intAt a0 a1 σ) := by
  refine hs_me (lv := [(0, .ref a0), (1, .int a1)]) (plainFor_of_name (by decide +kernel)) (Nat.le_of_ble_eq_true rfl) rfl ?_
  unfold fX3_intAt
  refine hj_ck ?_
  refine hj_aload_n 0 dX3_intAt_0 rfl ?_
  refine hj_getR flX3_33 dX3_intAt_1 (fun t1 _ => ?_)
  refine hj_getR flX3_79 dX3_intAt_4 (fun t2 _ => ?_)
  refine hj_iload_n 1 dX3_intAt_7 rfl ?_
  refine hj_lald dX3_intAt_8 (fun t3 _ => ?_)
  refine hj_l2i dX3_intAt_9 ?_
  exact hj_iret dX3_intAt_10 rfl rfl (Nat.le_refl _)
theorem cX3_intAtk {a0 : Nat} {a1 : Int32} {σ : Sto} {r : Int32 × Sto} (h : fX3_intAt a0 a1 σ = some r) : ∃ fs, hs_o σ 3 a0 = some fs := (ck_of h).1
def fX3_slipAt (a0 : Nat) (a1 : Int32) (a2 : Int32) (σ : Sto) : Option (Unit × Sto) := ck σ 3 a0 ((gI σ 3 a0 5).bind fun t1 => (if t1 = 0 then ((pV σ 3 a0 5 (.int a1)).bind fun σ2 => ((gR σ2 3 a0 0).bind fun t3 => ((gR σ2 9 t3 2).bind fun t4 => ((aI σ2 2 t4 a2).bind fun t5 => ((pV σ2 3 a0 6 (.int t5)).bind fun σ6 => (some ((), σ6))))))) else (some ((), σ))))
set_option maxHeartbeats 2000000 in
theorem kX3_slipAt (G : GP) (a0 : Nat) (a1 : Int32) (a2 : Int32) (σ : Sto) : Me G mX3_slipAt 1 0 0 jV [.ref a0, .int a1, .int a2] σ (fX3_slipAt a0 a1 a2 σ) := by
  refine hs_me (lv := [(0, .ref a0), (1, .int a1), (2, .int a2)]) (plainFor_of_name (by decide +kernel)) (Nat.le_of_ble_eq_true rfl) rfl ?_
  unfold fX3_slipAt
  refine hj_ck ?_
  refine hj_aload_n 0 dX3_slipAt_0 rfl ?_
  refine hj_getI flX3_21 dX3_slipAt_1 (fun t1 _ => ?_)
  refine hj_if_ne 25 dX3_slipAt_4 (by decide) (fun _ => ?_) (fun _ => ?_)
  · exact hj_vret dX3_slipAt_25 rfl rfl (Nat.le_refl _)
  · refine hj_aload_n 0 dX3_slipAt_7 rfl ?_
    refine hj_iload_n 1 dX3_slipAt_8 rfl ?_
    refine hj_put (fpX3_21 _) (fun _ => rfl) (fun _ => rfl) dX3_slipAt_9 (fun σ2 _ => ?_)
    refine hj_aload_n 0 dX3_slipAt_12 rfl ?_
    refine hj_aload_n 0 dX3_slipAt_13 rfl ?_
    refine hj_getR flX3_33 dX3_slipAt_14 (fun t3 _ => ?_)
    refine hj_getR flX3_155 dX3_slipAt_17 (fun t4 _ => ?_)
    refine hj_iload_n 2 dX3_slipAt_20 rfl ?_
    refine hj_iald dX3_slipAt_21 (fun t5 _ => ?_)
    refine hj_put (fpX3_24 _) (fun _ => rfl) (fun _ => rfl) dX3_slipAt_22 (fun σ6 _ => ?_)
    exact hj_vret dX3_slipAt_25 rfl rfl (Nat.le_refl _)
theorem cX3_slipAtk {a0 : Nat} {a1 : Int32} {a2 : Int32} {σ : Sto} {r : Unit × Sto} (h : fX3_slipAt a0 a1 a2 σ = some r) : ∃ fs, hs_o σ 3 a0 = some fs := (ck_of h).1
def fX3_checkInt_b18 (x0 : Nat) (x1 : Int32) (σ : Sto) : Option (Unit × Sto) := (cb (fX3_slipAt x0 ((5 : Int32)) x1 σ) fun _ σ1 => (some ((), σ1)))
set_option maxHeartbeats 2000000 in
theorem sX3_checkInt_b18 {G : GP} {n0 : Nat} : ∀ (x0 : Nat) (x1 : Int32) (σ : Sto), Sim G mX3_checkInt 2 0 0 n0 jV 0 0 18 [(0, .ref x0), (1, .int x1)] [] σ (fX3_checkInt_b18 x0 x1 σ) := by
  intro x0 x1 σ
  unfold fX3_checkInt_b18
  refine hj_aload_n 0 dX3_checkInt_18 rfl ?_
  refine hj_iconst (5 : Int32) dX3_checkInt_19 (by decide) ?_
  refine hj_iload_n 1 dX3_checkInt_20 rfl ?_
  refine hj_callV (ci := 3) (M' := mX3_slipAt) (h' := 1) (As := [.int ((5 : Int32)), .int x1]) mfX3_slipAt mvX3_slipAt ⟨_, _, rfl⟩ mlX3_87 dX3_checkInt_21 (kX3_slipAt G _ _ _ _) (fun _ hr => cX3_slipAtk hr) ⟨Nat.le_of_ble_eq_true rfl, Nat.le_of_ble_eq_true rfl⟩ ⟨Nat.le_refl _, Nat.le_refl _⟩ rfl (Nat.le_of_ble_eq_true rfl) (fun _ σ1 _ => ?_)
  exact hj_vret dX3_checkInt_24 rfl rfl (Nat.le_refl _)
def fX3_checkInt (a0 : Nat) (a1 : Int32) (a2 : Int32) (a3 : Int32) (σ : Sto) : Option (Unit × Sto) := ck σ 3 a0 (cb (fX3_intAt a0 a1 σ) fun r3 σ2 => (if r3 < a2 then (fX3_checkInt_b18 a0 a1 σ2) else (cb (fX3_intAt a0 a1 σ2) fun r5 σ4 => (if r5 ≤ a3 then (some ((), σ4)) else (fX3_checkInt_b18 a0 a1 σ4)))))
set_option maxHeartbeats 2000000 in
theorem kX3_checkInt (G : GP) (a0 : Nat) (a1 : Int32) (a2 : Int32) (a3 : Int32) (σ : Sto) : Me G mX3_checkInt 2 0 0 jV [.ref a0, .int a1, .int a2, .int a3] σ (fX3_checkInt a0 a1 a2 a3 σ) := by
  refine hs_me (lv := [(0, .ref a0), (1, .int a1), (2, .int a2), (3, .int a3)]) (plainFor_of_name (by decide +kernel)) (Nat.le_of_ble_eq_true rfl) rfl ?_
  unfold fX3_checkInt
  refine hj_ck ?_
  refine hj_aload_n 0 dX3_checkInt_0 rfl ?_
  refine hj_iload_n 1 dX3_checkInt_1 rfl ?_
  refine hj_callV (ci := 3) (M' := mX3_intAt) (h' := 1) (As := [.int a1]) mfX3_intAt mvX3_intAt ⟨_, _, rfl⟩ mlX3_95 dX3_checkInt_2 (kX3_intAt G _ _ _) (fun _ hr => cX3_intAtk hr) ⟨Nat.le_of_ble_eq_true rfl, Nat.le_of_ble_eq_true rfl⟩ ⟨Nat.le_refl _, Nat.le_refl _⟩ rfl (Nat.le_of_ble_eq_true rfl) (fun r3 σ2 _ => ?_)
  refine hj_iload_n 2 dX3_checkInt_5 rfl ?_
  refine hj_icmp_lt 18 dX3_checkInt_6 (by decide) (fun _ => ?_) (fun _ => ?_)
  · refine hj_loc (lv' := [(0, .ref a0), (1, .int a1)]) [0, 1] rfl ?_
    exact sX3_checkInt_b18 _ _ _
  · refine hj_aload_n 0 dX3_checkInt_9 rfl ?_
    refine hj_iload_n 1 dX3_checkInt_10 rfl ?_
    refine hj_callV (ci := 3) (M' := mX3_intAt) (h' := 1) (As := [.int a1]) mfX3_intAt mvX3_intAt ⟨_, _, rfl⟩ mlX3_95 dX3_checkInt_11 (kX3_intAt G _ _ _) (fun _ hr => cX3_intAtk hr) ⟨Nat.le_of_ble_eq_true rfl, Nat.le_of_ble_eq_true rfl⟩ ⟨Nat.le_refl _, Nat.le_refl _⟩ rfl (Nat.le_of_ble_eq_true rfl) (fun r5 σ4 _ => ?_)
    refine hj_iload_n 3 dX3_checkInt_14 rfl ?_
    refine hj_icmp_le 24 dX3_checkInt_15 (by decide) (fun _ => ?_) (fun _ => ?_)
    · exact hj_vret dX3_checkInt_24 rfl rfl (Nat.le_refl _)
    · refine hj_loc (lv' := [(0, .ref a0), (1, .int a1)]) [0, 1] rfl ?_
      exact sX3_checkInt_b18 _ _ _
theorem cX3_checkIntk {a0 : Nat} {a1 : Int32} {a2 : Int32} {a3 : Int32} {σ : Sto} {r : Unit × Sto} (h : fX3_checkInt a0 a1 a2 a3 σ = some r) : ∃ fs, hs_o σ 3 a0 = some fs := (ck_of h).1
def fX3_take (a0 : Nat) (a1 : Int32) (σ : Sto) : Option (Int32 × Sto) := ck σ 3 a0 ((gI σ 3 a0 2).bind fun t1 => ((gI σ 3 a0 3).bind fun t2 => (if t2 = 0 then ((gR σ 3 a0 0).bind fun t3 => ((gR σ 9 t3 1).bind fun t4 => ((gI σ 3 a0 2).bind fun t5 => ((aI σ 2 t4 t5).bind fun t6 => (if t6 = a1 then ((gI σ 3 a0 2).bind fun t7 => (if t7 < (400 : Int32) then ((gI σ 3 a0 2).bind fun t8 => ((pV σ 3 a0 2 (.int ((t8 + ((1 : Int32)))))).bind fun σ9 => (some (t1, σ9)))) else (cb (fX3_fail a0 ((2 : Int32)) σ) fun _ σ10 => (some (t1, σ10))))) else (cb (fX3_fail a0 ((1 : Int32)) σ) fun _ σ11 => (some (t1, σ11)))))))) else (some (t1, σ)))))
set_option maxHeartbeats 2000000 in
theorem kX3_take (G : GP) (a0 : Nat) (a1 : Int32) (σ : Sto) : Me G mX3_take 2 0 0 jI [.ref a0, .int a1] σ (fX3_take a0 a1 σ) := by
  refine hs_me (lv := [(0, .ref a0), (1, .int a1)]) (plainFor_of_name (by decide +kernel)) (Nat.le_of_ble_eq_true rfl) rfl ?_
  unfold fX3_take
  refine hj_ck ?_
  refine hj_aload_n 0 dX3_take_0 rfl ?_
  refine hj_getI flX3_9 dX3_take_1 (fun t1 _ => ?_)
  refine hj_istore_n (lv' := [(0, .ref a0), (1, .int a1), (2, .int t1)]) dX3_take_4 (by decide) [1, 2, 0] rfl ?_
  refine hj_aload_n 0 dX3_take_5 rfl ?_
  refine hj_getI flX3_15 dX3_take_6 (fun t2 _ => ?_)
  refine hj_if_eq 14 dX3_take_9 (by decide) (fun _ => ?_) (fun _ => ?_)
  · refine hj_aload_n 0 dX3_take_14 rfl ?_
    refine hj_getR flX3_33 dX3_take_15 (fun t3 _ => ?_)
    refine hj_getR flX3_45 dX3_take_18 (fun t4 _ => ?_)
    refine hj_aload_n 0 dX3_take_21 rfl ?_
    refine hj_getI flX3_9 dX3_take_22 (fun t5 _ => ?_)
    refine hj_iald dX3_take_25 (fun t6 _ => ?_)
    refine hj_iload_n 1 dX3_take_26 rfl ?_
    refine hj_icmp_eq 38 dX3_take_27 (by decide) (fun _ => ?_) (fun _ => ?_)
    · refine hj_aload_n 0 dX3_take_38 rfl ?_
      refine hj_getI flX3_9 dX3_take_39 (fun t7 _ => ?_)
      refine hj_sipush (400 : Int32) dX3_take_42 (by decide) ?_
      refine hj_icmp_lt 56 dX3_take_45 (by decide) (fun _ => ?_) (fun _ => ?_)
      · refine hj_aload_n 0 dX3_take_56 rfl ?_
        refine hj_dup dX3_take_57 rfl ?_
        refine hj_getI flX3_9 dX3_take_58 (fun t8 _ => ?_)
        refine hj_iconst (1 : Int32) dX3_take_61 (by decide) ?_
        refine hj_iadd dX3_take_62 ?_
        refine hj_put (fpX3_9 _) (fun _ => rfl) (fun _ => rfl) dX3_take_63 (fun σ9 _ => ?_)
        refine hj_iload_n 2 dX3_take_66 rfl ?_
        exact hj_iret dX3_take_67 rfl rfl (Nat.le_refl _)
      · refine hj_aload_n 0 dX3_take_48 rfl ?_
        refine hj_iconst (2 : Int32) dX3_take_49 (by decide) ?_
        refine hj_callV (ci := 3) (M' := mX3_fail) (h' := 1) (As := [.int ((2 : Int32))]) mfX3_fail mvX3_fail ⟨_, _, rfl⟩ mlX3_66 dX3_take_50 (kX3_fail G _ _ _) (fun _ hr => cX3_failk hr) ⟨Nat.le_of_ble_eq_true rfl, Nat.le_of_ble_eq_true rfl⟩ ⟨Nat.le_refl _, Nat.le_refl _⟩ rfl (Nat.le_of_ble_eq_true rfl) (fun _ σ10 _ => ?_)
        refine hj_goto 66 dX3_take_53 (by decide) ?_
        refine hj_iload_n 2 dX3_take_66 rfl ?_
        exact hj_iret dX3_take_67 rfl rfl (Nat.le_refl _)
    · refine hj_aload_n 0 dX3_take_30 rfl ?_
      refine hj_iconst (1 : Int32) dX3_take_31 (by decide) ?_
      refine hj_callV (ci := 3) (M' := mX3_fail) (h' := 1) (As := [.int ((1 : Int32))]) mfX3_fail mvX3_fail ⟨_, _, rfl⟩ mlX3_66 dX3_take_32 (kX3_fail G _ _ _) (fun _ hr => cX3_failk hr) ⟨Nat.le_of_ble_eq_true rfl, Nat.le_of_ble_eq_true rfl⟩ ⟨Nat.le_refl _, Nat.le_refl _⟩ rfl (Nat.le_of_ble_eq_true rfl) (fun _ σ11 _ => ?_)
      refine hj_goto 66 dX3_take_35 (by decide) ?_
      refine hj_iload_n 2 dX3_take_66 rfl ?_
      exact hj_iret dX3_take_67 rfl rfl (Nat.le_refl _)
  · refine hj_iload_n 2 dX3_take_12 rfl ?_
    exact hj_iret dX3_take_13 rfl rfl (Nat.le_refl _)
theorem cX3_takek {a0 : Nat} {a1 : Int32} {σ : Sto} {r : Int32 × Sto} (h : fX3_take a0 a1 σ = some r) : ∃ fs, hs_o σ 3 a0 = some fs := (ck_of h).1
def fX3_tellBook_b93 (x0 : Nat) (x1 : Int32) (x2 : Int32) (x3 : Int32) (σ : Sto) : Option (Unit × Sto) := (cb (fX3_checkInt x0 x2 ((1 : Int32)) ((99 : Int32)) σ) fun _ σ1 => (cb (fX3_checkInt x0 x3 ((1 : Int32)) ((20 : Int32)) σ1) fun _ σ2 => ((gI σ2 3 x0 5).bind fun t3 => (if t3 = 0 then ((gR σ2 3 x0 1).bind fun t4 => ((gR σ2 3 x0 0).bind fun t5 => ((gR σ2 9 t5 3).bind fun t6 => ((aL σ2 3 t6 x1).bind fun t7 => (cb (fX3_intAt x0 x2 σ2) fun r9 σ8 => (cb (fX3_intAt x0 x3 σ8) fun r11 σ10 => (cb (fX10_addBook t4 t7 r9 r11 σ10) fun _ σ12 => (some ((), σ12))))))))) else (some ((), σ2))))))
set_option maxHeartbeats 2000000 in
theorem sX3_tellBook_b93 {G : GP} {n0 : Nat} : ∀ (x0 : Nat) (x1 : Int32) (x2 : Int32) (x3 : Int32) (σ : Sto), Sim G mX3_tellBook 3 0 0 n0 jV 0 0 93 [(0, .ref x0), (1, .int x1), (2, .int x2), (3, .int x3)] [] σ (fX3_tellBook_b93 x0 x1 x2 x3 σ) := by
  intro x0 x1 x2 x3 σ
  unfold fX3_tellBook_b93
  refine hj_aload_n 0 dX3_tellBook_93 rfl ?_
  refine hj_iload_n 2 dX3_tellBook_94 rfl ?_
  refine hj_iconst (1 : Int32) dX3_tellBook_95 (by decide) ?_
  refine hj_bipush (99 : Int32) dX3_tellBook_96 (by decide) ?_
  refine hj_callV (ci := 3) (M' := mX3_checkInt) (h' := 2) (As := [.int x2, .int ((1 : Int32)), .int ((99 : Int32))]) mfX3_checkInt mvX3_checkInt ⟨_, _, rfl⟩ mlX3_91 dX3_tellBook_98 (kX3_checkInt G _ _ _ _ _) (fun _ hr => cX3_checkIntk hr) ⟨Nat.le_of_ble_eq_true rfl, Nat.le_of_ble_eq_true rfl⟩ ⟨Nat.le_refl _, Nat.le_refl _⟩ rfl (Nat.le_of_ble_eq_true rfl) (fun _ σ1 _ => ?_)
  refine hj_aload_n 0 dX3_tellBook_101 rfl ?_
  refine hj_iload_n 3 dX3_tellBook_102 rfl ?_
  refine hj_iconst (1 : Int32) dX3_tellBook_103 (by decide) ?_
  refine hj_bipush (20 : Int32) dX3_tellBook_104 (by decide) ?_
  refine hj_callV (ci := 3) (M' := mX3_checkInt) (h' := 2) (As := [.int x3, .int ((1 : Int32)), .int ((20 : Int32))]) mfX3_checkInt mvX3_checkInt ⟨_, _, rfl⟩ mlX3_91 dX3_tellBook_106 (kX3_checkInt G _ _ _ _ _) (fun _ hr => cX3_checkIntk hr) ⟨Nat.le_of_ble_eq_true rfl, Nat.le_of_ble_eq_true rfl⟩ ⟨Nat.le_refl _, Nat.le_refl _⟩ rfl (Nat.le_of_ble_eq_true rfl) (fun _ σ2 _ => ?_)
  refine hj_aload_n 0 dX3_tellBook_109 rfl ?_
  refine hj_getI flX3_21 dX3_tellBook_110 (fun t3 _ => ?_)
  refine hj_if_ne 142 dX3_tellBook_113 (by decide) (fun _ => ?_) (fun _ => ?_)
  · exact hj_vret dX3_tellBook_142 rfl rfl (Nat.le_refl _)
  · refine hj_aload_n 0 dX3_tellBook_116 rfl ?_
    refine hj_getR flX3_37 dX3_tellBook_117 (fun t4 _ => ?_)
    refine hj_aload_n 0 dX3_tellBook_120 rfl ?_
    refine hj_getR flX3_33 dX3_tellBook_121 (fun t5 _ => ?_)
    refine hj_getR flX3_79 dX3_tellBook_124 (fun t6 _ => ?_)
    refine hj_iload_n 1 dX3_tellBook_127 rfl ?_
    refine hj_lald dX3_tellBook_128 (fun t7 _ => ?_)
    refine hj_aload_n 0 dX3_tellBook_129 rfl ?_
    refine hj_iload_n 2 dX3_tellBook_130 rfl ?_
    refine hj_callV (ci := 3) (M' := mX3_intAt) (h' := 1) (As := [.int x2]) mfX3_intAt mvX3_intAt ⟨_, _, rfl⟩ mlX3_95 dX3_tellBook_131 (kX3_intAt G _ _ _) (fun _ hr => cX3_intAtk hr) ⟨Nat.le_of_ble_eq_true rfl, Nat.le_of_ble_eq_true rfl⟩ ⟨Nat.le_refl _, Nat.le_refl _⟩ rfl (Nat.le_of_ble_eq_true rfl) (fun r9 σ8 _ => ?_)
    refine hj_aload_n 0 dX3_tellBook_134 rfl ?_
    refine hj_iload_n 3 dX3_tellBook_135 rfl ?_
    refine hj_callV (ci := 3) (M' := mX3_intAt) (h' := 1) (As := [.int x3]) mfX3_intAt mvX3_intAt ⟨_, _, rfl⟩ mlX3_95 dX3_tellBook_136 (kX3_intAt G _ _ _) (fun _ hr => cX3_intAtk hr) ⟨Nat.le_of_ble_eq_true rfl, Nat.le_of_ble_eq_true rfl⟩ ⟨Nat.le_refl _, Nat.le_refl _⟩ rfl (Nat.le_of_ble_eq_true rfl) (fun r11 σ10 _ => ?_)
    refine hj_callV (ci := 10) (M' := mX10_addBook) (h' := 1) (As := [.long t7, .int r9, .int r11]) mfX10_addBook mvX10_addBook ⟨_, _, rfl⟩ mlX3_98 dX3_tellBook_139 (kX10_addBook G _ _ _ _ _) (fun _ hr => cX10_addBookk hr) ⟨Nat.le_of_ble_eq_true rfl, Nat.le_of_ble_eq_true rfl⟩ ⟨Nat.le_refl _, Nat.le_refl _⟩ rfl (Nat.le_of_ble_eq_true rfl) (fun _ σ12 _ => ?_)
    exact hj_vret dX3_tellBook_142 rfl rfl (Nat.le_refl _)
def fX3_tellBook (a0 : Nat) (σ : Sto) : Option (Unit × Sto) := ck σ 3 a0 ((gI σ 3 a0 7).bind fun t13 => (if t13 = (6 : Int32) then (cb (fX3_fail a0 ((2 : Int32)) σ) fun _ σ34 => (some ((), σ34))) else ((gI σ 3 a0 7).bind fun t14 => ((pV σ 3 a0 7 (.int ((t14 + ((1 : Int32)))))).bind fun σ15 => (cb (fX3_take a0 ((0 : Int32)) σ15) fun r17 σ16 => (cb (fX3_take a0 ((16 : Int32)) σ16) fun r19 σ18 => (cb (fX3_take a0 ((17 : Int32)) σ18) fun r21 σ20 => (cb (fX3_take a0 ((17 : Int32)) σ20) fun r23 σ22 => (cb (fX3_take a0 ((59 : Int32)) σ22) fun r25 σ24 => ((gI σ24 3 a0 3).bind fun t26 => (if t26 = 0 then ((gR σ24 3 a0 1).bind fun t27 => ((gR σ24 3 a0 0).bind fun t28 => ((gR σ24 9 t28 3).bind fun t29 => ((aL σ24 3 t29 r19).bind fun t30 => (cb (fX10_bookNamed t27 t30 σ24) fun r32 σ31 => (if r32 = (-1 : Int32) then (fX3_tellBook_b93 a0 r19 r21 r23 σ31) else (cb (fX3_slipAt a0 ((3 : Int32)) r19 σ31) fun _ σ33 => (fX3_tellBook_b93 a0 r19 r21 r23 σ33)))))))) else (some ((), σ24)))))))))))))
set_option maxHeartbeats 2000000 in
theorem kX3_tellBook (G : GP) (a0 : Nat) (σ : Sto) : Me G mX3_tellBook 3 0 0 jV [.ref a0] σ (fX3_tellBook a0 σ) := by
  refine hs_me (lv := [(0, .ref a0)]) (plainFor_of_name (by decide +kernel)) (Nat.le_of_ble_eq_true rfl) rfl ?_
  unfold fX3_tellBook
  refine hj_ck ?_
  refine hj_aload_n 0 dX3_tellBook_0 rfl ?_
  refine hj_getI flX3_27 dX3_tellBook_1 (fun t13 _ => ?_)
  refine hj_bipush (6 : Int32) dX3_tellBook_4 (by decide) ?_
  refine hj_icmp_ne 15 dX3_tellBook_6 (by decide) (fun _ => ?_) (fun _ => ?_)
  · refine hj_aload_n 0 dX3_tellBook_15 rfl ?_
    refine hj_dup dX3_tellBook_16 rfl ?_
    refine hj_getI flX3_27 dX3_tellBook_17 (fun t14 _ => ?_)
    refine hj_iconst (1 : Int32) dX3_tellBook_20 (by decide) ?_
    refine hj_iadd dX3_tellBook_21 ?_
    refine hj_put (fpX3_27 _) (fun _ => rfl) (fun _ => rfl) dX3_tellBook_22 (fun σ15 _ => ?_)
    refine hj_aload_n 0 dX3_tellBook_25 rfl ?_
    refine hj_iconst (0 : Int32) dX3_tellBook_26 (by decide) ?_
    refine hj_callV (ci := 3) (M' := mX3_take) (h' := 2) (As := [.int ((0 : Int32))]) mfX3_take mvX3_take ⟨_, _, rfl⟩ mlX3_75 dX3_tellBook_27 (kX3_take G _ _ _) (fun _ hr => cX3_takek hr) ⟨Nat.le_of_ble_eq_true rfl, Nat.le_of_ble_eq_true rfl⟩ ⟨Nat.le_refl _, Nat.le_refl _⟩ rfl (Nat.le_of_ble_eq_true rfl) (fun r17 σ16 _ => ?_)
    refine hj_pop dX3_tellBook_30 rfl ?_
    refine hj_aload_n 0 dX3_tellBook_31 rfl ?_
    refine hj_bipush (16 : Int32) dX3_tellBook_32 (by decide) ?_
    refine hj_callV (ci := 3) (M' := mX3_take) (h' := 2) (As := [.int ((16 : Int32))]) mfX3_take mvX3_take ⟨_, _, rfl⟩ mlX3_75 dX3_tellBook_34 (kX3_take G _ _ _) (fun _ hr => cX3_takek hr) ⟨Nat.le_of_ble_eq_true rfl, Nat.le_of_ble_eq_true rfl⟩ ⟨Nat.le_refl _, Nat.le_refl _⟩ rfl (Nat.le_of_ble_eq_true rfl) (fun r19 σ18 _ => ?_)
    refine hj_istore_n (lv' := [(0, .ref a0), (1, .int r19)]) dX3_tellBook_37 (by decide) [1, 0] rfl ?_
    refine hj_aload_n 0 dX3_tellBook_38 rfl ?_
    refine hj_bipush (17 : Int32) dX3_tellBook_39 (by decide) ?_
    refine hj_callV (ci := 3) (M' := mX3_take) (h' := 2) (As := [.int ((17 : Int32))]) mfX3_take mvX3_take ⟨_, _, rfl⟩ mlX3_75 dX3_tellBook_41 (kX3_take G _ _ _) (fun _ hr => cX3_takek hr) ⟨Nat.le_of_ble_eq_true rfl, Nat.le_of_ble_eq_true rfl⟩ ⟨Nat.le_refl _, Nat.le_refl _⟩ rfl (Nat.le_of_ble_eq_true rfl) (fun r21 σ20 _ => ?_)
    refine hj_istore_n (lv' := [(0, .ref a0), (1, .int r19), (2, .int r21)]) dX3_tellBook_44 (by decide) [1, 2, 0] rfl ?_
    refine hj_aload_n 0 dX3_tellBook_45 rfl ?_
    refine hj_bipush (17 : Int32) dX3_tellBook_46 (by decide) ?_
    refine hj_callV (ci := 3) (M' := mX3_take) (h' := 2) (As := [.int ((17 : Int32))]) mfX3_take mvX3_take ⟨_, _, rfl⟩ mlX3_75 dX3_tellBook_48 (kX3_take G _ _ _) (fun _ hr => cX3_takek hr) ⟨Nat.le_of_ble_eq_true rfl, Nat.le_of_ble_eq_true rfl⟩ ⟨Nat.le_refl _, Nat.le_refl _⟩ rfl (Nat.le_of_ble_eq_true rfl) (fun r23 σ22 _ => ?_)
    refine hj_istore_n (lv' := [(0, .ref a0), (1, .int r19), (2, .int r21), (3, .int r23)]) dX3_tellBook_51 (by decide) [1, 2, 3, 0] rfl ?_
    refine hj_aload_n 0 dX3_tellBook_52 rfl ?_
    refine hj_bipush (59 : Int32) dX3_tellBook_53 (by decide) ?_
    refine hj_callV (ci := 3) (M' := mX3_take) (h' := 2) (As := [.int ((59 : Int32))]) mfX3_take mvX3_take ⟨_, _, rfl⟩ mlX3_75 dX3_tellBook_55 (kX3_take G _ _ _) (fun _ hr => cX3_takek hr) ⟨Nat.le_of_ble_eq_true rfl, Nat.le_of_ble_eq_true rfl⟩ ⟨Nat.le_refl _, Nat.le_refl _⟩ rfl (Nat.le_of_ble_eq_true rfl) (fun r25 σ24 _ => ?_)
    refine hj_pop dX3_tellBook_58 rfl ?_
    refine hj_aload_n 0 dX3_tellBook_59 rfl ?_
    refine hj_getI flX3_15 dX3_tellBook_60 (fun t26 _ => ?_)
    refine hj_if_eq 67 dX3_tellBook_63 (by decide) (fun _ => ?_) (fun _ => ?_)
    · refine hj_aload_n 0 dX3_tellBook_67 rfl ?_
      refine hj_getR flX3_37 dX3_tellBook_68 (fun t27 _ => ?_)
      refine hj_aload_n 0 dX3_tellBook_71 rfl ?_
      refine hj_getR flX3_33 dX3_tellBook_72 (fun t28 _ => ?_)
      refine hj_getR flX3_79 dX3_tellBook_75 (fun t29 _ => ?_)
      refine hj_iload_n 1 dX3_tellBook_78 rfl ?_
      refine hj_lald dX3_tellBook_79 (fun t30 _ => ?_)
      refine hj_callV (ci := 10) (M' := mX10_bookNamed) (h' := 1) (As := [.long t30]) mfX10_bookNamed mvX10_bookNamed ⟨_, _, rfl⟩ mlX3_83 dX3_tellBook_80 (kX10_bookNamed G _ _ _) (fun _ hr => cX10_bookNamedk hr) ⟨Nat.le_of_ble_eq_true rfl, Nat.le_of_ble_eq_true rfl⟩ ⟨Nat.le_refl _, Nat.le_refl _⟩ rfl (Nat.le_of_ble_eq_true rfl) (fun r32 σ31 _ => ?_)
      refine hj_iconst (-1 : Int32) dX3_tellBook_83 (by decide) ?_
      refine hj_icmp_eq 93 dX3_tellBook_84 (by decide) (fun _ => ?_) (fun _ => ?_)
      · refine hj_loc (lv' := [(0, .ref a0), (1, .int r19), (2, .int r21), (3, .int r23)]) [0, 1, 2, 3] rfl ?_
        exact sX3_tellBook_b93 _ _ _ _ _
      · refine hj_aload_n 0 dX3_tellBook_87 rfl ?_
        refine hj_iconst (3 : Int32) dX3_tellBook_88 (by decide) ?_
        refine hj_iload_n 1 dX3_tellBook_89 rfl ?_
        refine hj_callV (ci := 3) (M' := mX3_slipAt) (h' := 1) (As := [.int ((3 : Int32)), .int r19]) mfX3_slipAt mvX3_slipAt ⟨_, _, rfl⟩ mlX3_87 dX3_tellBook_90 (kX3_slipAt G _ _ _ _) (fun _ hr => cX3_slipAtk hr) ⟨Nat.le_of_ble_eq_true rfl, Nat.le_of_ble_eq_true rfl⟩ ⟨Nat.le_refl _, Nat.le_refl _⟩ rfl (Nat.le_of_ble_eq_true rfl) (fun _ σ33 _ => ?_)
        refine hj_loc (lv' := [(0, .ref a0), (1, .int r19), (2, .int r21), (3, .int r23)]) [0, 1, 2, 3] rfl ?_
        exact sX3_tellBook_b93 _ _ _ _ _
    · exact hj_vret dX3_tellBook_66 rfl rfl (Nat.le_refl _)
  · refine hj_aload_n 0 dX3_tellBook_9 rfl ?_
    refine hj_iconst (2 : Int32) dX3_tellBook_10 (by decide) ?_
    refine hj_callV (ci := 3) (M' := mX3_fail) (h' := 1) (As := [.int ((2 : Int32))]) mfX3_fail mvX3_fail ⟨_, _, rfl⟩ mlX3_66 dX3_tellBook_11 (kX3_fail G _ _ _) (fun _ hr => cX3_failk hr) ⟨Nat.le_of_ble_eq_true rfl, Nat.le_of_ble_eq_true rfl⟩ ⟨Nat.le_refl _, Nat.le_refl _⟩ rfl (Nat.le_of_ble_eq_true rfl) (fun _ σ34 _ => ?_)
    exact hj_vret dX3_tellBook_14 rfl rfl (Nat.le_refl _)
theorem cX3_tellBookk {a0 : Nat} {σ : Sto} {r : Unit × Sto} (h : fX3_tellBook a0 σ = some r) : ∃ fs, hs_o σ 3 a0 = some fs := (ck_of h).1
def fX3_knownBook (a0 : Nat) (a1 : Int32) (σ : Sto) : Option (Int32 × Sto) := ck σ 3 a0 ((gR σ 3 a0 1).bind fun t1 => ((gR σ 3 a0 0).bind fun t2 => ((gR σ 9 t2 3).bind fun t3 => ((aL σ 3 t3 a1).bind fun t4 => (cb (fX10_bookNamed t1 t4 σ) fun r6 σ5 => (if r6 = (-1 : Int32) then (cb (fX3_slipAt a0 ((4 : Int32)) a1 σ5) fun _ σ7 => (some (r6, σ7))) else (some (r6, σ5))))))))
set_option maxHeartbeats 2000000 in
theorem kX3_knownBook (G : GP) (a0 : Nat) (a1 : Int32) (σ : Sto) : Me G mX3_knownBook 2 0 0 jI [.ref a0, .int a1] σ (fX3_knownBook a0 a1 σ) := by
  refine hs_me (lv := [(0, .ref a0), (1, .int a1)]) (plainFor_of_name (by decide +kernel)) (Nat.le_of_ble_eq_true rfl) rfl ?_
  unfold fX3_knownBook
  refine hj_ck ?_
  refine hj_aload_n 0 dX3_knownBook_0 rfl ?_
  refine hj_getR flX3_37 dX3_knownBook_1 (fun t1 _ => ?_)
  refine hj_aload_n 0 dX3_knownBook_4 rfl ?_
  refine hj_getR flX3_33 dX3_knownBook_5 (fun t2 _ => ?_)
  refine hj_getR flX3_79 dX3_knownBook_8 (fun t3 _ => ?_)
  refine hj_iload_n 1 dX3_knownBook_11 rfl ?_
  refine hj_lald dX3_knownBook_12 (fun t4 _ => ?_)
  refine hj_callV (ci := 10) (M' := mX10_bookNamed) (h' := 1) (As := [.long t4]) mfX10_bookNamed mvX10_bookNamed ⟨_, _, rfl⟩ mlX3_83 dX3_knownBook_13 (kX10_bookNamed G _ _ _) (fun _ hr => cX10_bookNamedk hr) ⟨Nat.le_of_ble_eq_true rfl, Nat.le_of_ble_eq_true rfl⟩ ⟨Nat.le_refl _, Nat.le_refl _⟩ rfl (Nat.le_of_ble_eq_true rfl) (fun r6 σ5 _ => ?_)
  refine hj_istore_n (lv' := [(0, .ref a0), (1, .int a1), (2, .int r6)]) dX3_knownBook_16 (by decide) [1, 2, 0] rfl ?_
  refine hj_iload_n 2 dX3_knownBook_17 rfl ?_
  refine hj_iconst (-1 : Int32) dX3_knownBook_18 (by decide) ?_
  refine hj_icmp_ne 28 dX3_knownBook_19 (by decide) (fun _ => ?_) (fun _ => ?_)
  · refine hj_iload_n 2 dX3_knownBook_28 rfl ?_
    exact hj_iret dX3_knownBook_29 rfl rfl (Nat.le_refl _)
  · refine hj_aload_n 0 dX3_knownBook_22 rfl ?_
    refine hj_iconst (4 : Int32) dX3_knownBook_23 (by decide) ?_
    refine hj_iload_n 1 dX3_knownBook_24 rfl ?_
    refine hj_callV (ci := 3) (M' := mX3_slipAt) (h' := 1) (As := [.int ((4 : Int32)), .int a1]) mfX3_slipAt mvX3_slipAt ⟨_, _, rfl⟩ mlX3_87 dX3_knownBook_25 (kX3_slipAt G _ _ _ _) (fun _ hr => cX3_slipAtk hr) ⟨Nat.le_of_ble_eq_true rfl, Nat.le_of_ble_eq_true rfl⟩ ⟨Nat.le_refl _, Nat.le_refl _⟩ rfl (Nat.le_of_ble_eq_true rfl) (fun _ σ7 _ => ?_)
    refine hj_iload_n 2 dX3_knownBook_28 rfl ?_
    exact hj_iret dX3_knownBook_29 rfl rfl (Nat.le_refl _)
theorem cX3_knownBookk {a0 : Nat} {a1 : Int32} {σ : Sto} {r : Int32 × Sto} (h : fX3_knownBook a0 a1 σ = some r) : ∃ fs, hs_o σ 3 a0 = some fs := (ck_of h).1
def fX3_tellFly_b111 (x0 : Nat) (x1 : Int32) (x3 : Int32) (x4 : Int32) (σ : Sto) : Option (Unit × Sto) := ((gI σ 3 x0 5).bind fun t1 => (if t1 = 0 then ((gR σ 3 x0 1).bind fun t2 => (cb (fX3_intAt x0 x1 σ) fun r4 σ3 => (cb (fX3_intAt x0 x3 σ3) fun r6 σ5 => (cb (fX10_addFly t2 r4 x4 r6 σ5) fun _ σ7 => (some ((), σ7)))))) else (some ((), σ))))
set_option maxHeartbeats 2000000 in
theorem sX3_tellFly_b111 {G : GP} {n0 : Nat} : ∀ (x0 : Nat) (x1 : Int32) (x3 : Int32) (x4 : Int32) (σ : Sto), Sim G mX3_tellFly 3 0 0 n0 jV 0 0 111 [(0, .ref x0), (1, .int x1), (3, .int x3), (4, .int x4)] [] σ (fX3_tellFly_b111 x0 x1 x3 x4 σ) := by
  intro x0 x1 x3 x4 σ
  unfold fX3_tellFly_b111
  refine hj_aload_n 0 dX3_tellFly_111 rfl ?_
  refine hj_getI flX3_21 dX3_tellFly_112 (fun t1 _ => ?_)
  refine hj_if_ne 137 dX3_tellFly_115 (by decide) (fun _ => ?_) (fun _ => ?_)
  · exact hj_vret dX3_tellFly_137 rfl rfl (Nat.le_refl _)
  · refine hj_aload_n 0 dX3_tellFly_118 rfl ?_
    refine hj_getR flX3_37 dX3_tellFly_119 (fun t2 _ => ?_)
    refine hj_aload_n 0 dX3_tellFly_122 rfl ?_
    refine hj_iload_n 1 dX3_tellFly_123 rfl ?_
    refine hj_callV (ci := 3) (M' := mX3_intAt) (h' := 1) (As := [.int x1]) mfX3_intAt mvX3_intAt ⟨_, _, rfl⟩ mlX3_95 dX3_tellFly_124 (kX3_intAt G _ _ _) (fun _ hr => cX3_intAtk hr) ⟨Nat.le_of_ble_eq_true rfl, Nat.le_of_ble_eq_true rfl⟩ ⟨Nat.le_refl _, Nat.le_refl _⟩ rfl (Nat.le_of_ble_eq_true rfl) (fun r4 σ3 _ => ?_)
    refine hj_iload 3 dX3_tellFly_127 rfl ?_
    refine hj_aload_n 0 dX3_tellFly_129 rfl ?_
    refine hj_iload_n 2 dX3_tellFly_130 rfl ?_
    refine hj_callV (ci := 3) (M' := mX3_intAt) (h' := 1) (As := [.int x3]) mfX3_intAt mvX3_intAt ⟨_, _, rfl⟩ mlX3_95 dX3_tellFly_131 (kX3_intAt G _ _ _) (fun _ hr => cX3_intAtk hr) ⟨Nat.le_of_ble_eq_true rfl, Nat.le_of_ble_eq_true rfl⟩ ⟨Nat.le_refl _, Nat.le_refl _⟩ rfl (Nat.le_of_ble_eq_true rfl) (fun r6 σ5 _ => ?_)
    refine hj_callV (ci := 10) (M' := mX10_addFly) (h' := 1) (As := [.int r4, .int x4, .int r6]) mfX10_addFly mvX10_addFly ⟨_, _, rfl⟩ mlX3_146 dX3_tellFly_134 (kX10_addFly G _ _ _ _ _) (fun _ hr => cX10_addFlyk hr) ⟨Nat.le_of_ble_eq_true rfl, Nat.le_of_ble_eq_true rfl⟩ ⟨Nat.le_refl _, Nat.le_refl _⟩ rfl (Nat.le_of_ble_eq_true rfl) (fun _ σ7 _ => ?_)
    exact hj_vret dX3_tellFly_137 rfl rfl (Nat.le_refl _)
def fX3_tellFly (a0 : Nat) (σ : Sto) : Option (Unit × Sto) := ck σ 3 a0 ((gI σ 3 a0 8).bind fun t8 => (if t8 = (6 : Int32) then (cb (fX3_fail a0 ((2 : Int32)) σ) fun _ σ31 => (some ((), σ31))) else ((gI σ 3 a0 8).bind fun t9 => ((pV σ 3 a0 8 (.int ((t9 + ((1 : Int32)))))).bind fun σ10 => (cb (fX3_take a0 ((4 : Int32)) σ10) fun r12 σ11 => (cb (fX3_take a0 ((17 : Int32)) σ11) fun r14 σ13 => (cb (fX3_take a0 ((7 : Int32)) σ13) fun r16 σ15 => (cb (fX3_take a0 ((16 : Int32)) σ15) fun r18 σ17 => (cb (fX3_take a0 ((17 : Int32)) σ17) fun r20 σ19 => (cb (fX3_take a0 ((59 : Int32)) σ19) fun r22 σ21 => ((gI σ21 3 a0 3).bind fun t23 => (if t23 = 0 then (cb (fX3_checkInt a0 r14 ((0 : Int32)) ((99 : Int32)) σ21) fun _ σ24 => (cb (fX3_knownBook a0 r18 σ24) fun r26 σ25 => (if r26 = (-1 : Int32) then (fX3_tellFly_b111 a0 r14 r20 r26 σ25) else ((gR σ25 3 a0 1).bind fun t27 => ((gR σ25 10 t27 2).bind fun t28 => ((aI σ25 2 t28 r26).bind fun t29 => (cb (fX3_checkInt a0 r20 ((0 : Int32)) t29 σ25) fun _ σ30 => (fX3_tellFly_b111 a0 r14 r20 r26 σ30)))))))) else (some ((), σ21))))))))))))))
set_option maxHeartbeats 2000000 in
theorem kX3_tellFly (G : GP) (a0 : Nat) (σ : Sto) : Me G mX3_tellFly 3 0 0 jV [.ref a0] σ (fX3_tellFly a0 σ) := by
  refine hs_me (lv := [(0, .ref a0)]) (plainFor_of_name (by decide +kernel)) (Nat.le_of_ble_eq_true rfl) rfl ?_
  unfold fX3_tellFly
  refine hj_ck ?_
  refine hj_aload_n 0 dX3_tellFly_0 rfl ?_
  refine hj_getI flX3_30 dX3_tellFly_1 (fun t8 _ => ?_)
  refine hj_bipush (6 : Int32) dX3_tellFly_4 (by decide) ?_
  refine hj_icmp_ne 15 dX3_tellFly_6 (by decide) (fun _ => ?_) (fun _ => ?_)
  · refine hj_aload_n 0 dX3_tellFly_15 rfl ?_
    refine hj_dup dX3_tellFly_16 rfl ?_
    refine hj_getI flX3_30 dX3_tellFly_17 (fun t9 _ => ?_)
    refine hj_iconst (1 : Int32) dX3_tellFly_20 (by decide) ?_
    refine hj_iadd dX3_tellFly_21 ?_
    refine hj_put (fpX3_30 _) (fun _ => rfl) (fun _ => rfl) dX3_tellFly_22 (fun σ10 _ => ?_)
    refine hj_aload_n 0 dX3_tellFly_25 rfl ?_
    refine hj_iconst (4 : Int32) dX3_tellFly_26 (by decide) ?_
    refine hj_callV (ci := 3) (M' := mX3_take) (h' := 2) (As := [.int ((4 : Int32))]) mfX3_take mvX3_take ⟨_, _, rfl⟩ mlX3_75 dX3_tellFly_27 (kX3_take G _ _ _) (fun _ hr => cX3_takek hr) ⟨Nat.le_of_ble_eq_true rfl, Nat.le_of_ble_eq_true rfl⟩ ⟨Nat.le_refl _, Nat.le_refl _⟩ rfl (Nat.le_of_ble_eq_true rfl) (fun r12 σ11 _ => ?_)
    refine hj_pop dX3_tellFly_30 rfl ?_
    refine hj_aload_n 0 dX3_tellFly_31 rfl ?_
    refine hj_bipush (17 : Int32) dX3_tellFly_32 (by decide) ?_
    refine hj_callV (ci := 3) (M' := mX3_take) (h' := 2) (As := [.int ((17 : Int32))]) mfX3_take mvX3_take ⟨_, _, rfl⟩ mlX3_75 dX3_tellFly_34 (kX3_take G _ _ _) (fun _ hr => cX3_takek hr) ⟨Nat.le_of_ble_eq_true rfl, Nat.le_of_ble_eq_true rfl⟩ ⟨Nat.le_refl _, Nat.le_refl _⟩ rfl (Nat.le_of_ble_eq_true rfl) (fun r14 σ13 _ => ?_)
    refine hj_istore_n (lv' := [(0, .ref a0), (1, .int r14)]) dX3_tellFly_37 (by decide) [1, 0] rfl ?_
    refine hj_aload_n 0 dX3_tellFly_38 rfl ?_
    refine hj_bipush (7 : Int32) dX3_tellFly_39 (by decide) ?_
    refine hj_callV (ci := 3) (M' := mX3_take) (h' := 2) (As := [.int ((7 : Int32))]) mfX3_take mvX3_take ⟨_, _, rfl⟩ mlX3_75 dX3_tellFly_41 (kX3_take G _ _ _) (fun _ hr => cX3_takek hr) ⟨Nat.le_of_ble_eq_true rfl, Nat.le_of_ble_eq_true rfl⟩ ⟨Nat.le_refl _, Nat.le_refl _⟩ rfl (Nat.le_of_ble_eq_true rfl) (fun r16 σ15 _ => ?_)
    refine hj_pop dX3_tellFly_44 rfl ?_
    refine hj_aload_n 0 dX3_tellFly_45 rfl ?_
    refine hj_bipush (16 : Int32) dX3_tellFly_46 (by decide) ?_
    refine hj_callV (ci := 3) (M' := mX3_take) (h' := 2) (As := [.int ((16 : Int32))]) mfX3_take mvX3_take ⟨_, _, rfl⟩ mlX3_75 dX3_tellFly_48 (kX3_take G _ _ _) (fun _ hr => cX3_takek hr) ⟨Nat.le_of_ble_eq_true rfl, Nat.le_of_ble_eq_true rfl⟩ ⟨Nat.le_refl _, Nat.le_refl _⟩ rfl (Nat.le_of_ble_eq_true rfl) (fun r18 σ17 _ => ?_)
    refine hj_istore_n (lv' := [(0, .ref a0), (1, .int r14), (2, .int r18)]) dX3_tellFly_51 (by decide) [1, 2, 0] rfl ?_
    refine hj_aload_n 0 dX3_tellFly_52 rfl ?_
    refine hj_bipush (17 : Int32) dX3_tellFly_53 (by decide) ?_
    refine hj_callV (ci := 3) (M' := mX3_take) (h' := 2) (As := [.int ((17 : Int32))]) mfX3_take mvX3_take ⟨_, _, rfl⟩ mlX3_75 dX3_tellFly_55 (kX3_take G _ _ _) (fun _ hr => cX3_takek hr) ⟨Nat.le_of_ble_eq_true rfl, Nat.le_of_ble_eq_true rfl⟩ ⟨Nat.le_refl _, Nat.le_refl _⟩ rfl (Nat.le_of_ble_eq_true rfl) (fun r20 σ19 _ => ?_)
    refine hj_istore_n (lv' := [(0, .ref a0), (1, .int r14), (2, .int r18), (3, .int r20)]) dX3_tellFly_58 (by decide) [1, 2, 3, 0] rfl ?_
    refine hj_aload_n 0 dX3_tellFly_59 rfl ?_
    refine hj_bipush (59 : Int32) dX3_tellFly_60 (by decide) ?_
    refine hj_callV (ci := 3) (M' := mX3_take) (h' := 2) (As := [.int ((59 : Int32))]) mfX3_take mvX3_take ⟨_, _, rfl⟩ mlX3_75 dX3_tellFly_62 (kX3_take G _ _ _) (fun _ hr => cX3_takek hr) ⟨Nat.le_of_ble_eq_true rfl, Nat.le_of_ble_eq_true rfl⟩ ⟨Nat.le_refl _, Nat.le_refl _⟩ rfl (Nat.le_of_ble_eq_true rfl) (fun r22 σ21 _ => ?_)
    refine hj_pop dX3_tellFly_65 rfl ?_
    refine hj_aload_n 0 dX3_tellFly_66 rfl ?_
    refine hj_getI flX3_15 dX3_tellFly_67 (fun t23 _ => ?_)
    refine hj_if_eq 74 dX3_tellFly_70 (by decide) (fun _ => ?_) (fun _ => ?_)
    · refine hj_aload_n 0 dX3_tellFly_74 rfl ?_
      refine hj_iload_n 1 dX3_tellFly_75 rfl ?_
      refine hj_iconst (0 : Int32) dX3_tellFly_76 (by decide) ?_
      refine hj_bipush (99 : Int32) dX3_tellFly_77 (by decide) ?_
      refine hj_callV (ci := 3) (M' := mX3_checkInt) (h' := 2) (As := [.int r14, .int ((0 : Int32)), .int ((99 : Int32))]) mfX3_checkInt mvX3_checkInt ⟨_, _, rfl⟩ mlX3_91 dX3_tellFly_79 (kX3_checkInt G _ _ _ _ _) (fun _ hr => cX3_checkIntk hr) ⟨Nat.le_of_ble_eq_true rfl, Nat.le_of_ble_eq_true rfl⟩ ⟨Nat.le_refl _, Nat.le_refl _⟩ rfl (Nat.le_of_ble_eq_true rfl) (fun _ σ24 _ => ?_)
      refine hj_aload_n 0 dX3_tellFly_82 rfl ?_
      refine hj_iload_n 2 dX3_tellFly_83 rfl ?_
      refine hj_callV (ci := 3) (M' := mX3_knownBook) (h' := 2) (As := [.int r18]) mfX3_knownBook mvX3_knownBook ⟨_, _, rfl⟩ mlX3_102 dX3_tellFly_84 (kX3_knownBook G _ _ _) (fun _ hr => cX3_knownBookk hr) ⟨Nat.le_of_ble_eq_true rfl, Nat.le_of_ble_eq_true rfl⟩ ⟨Nat.le_refl _, Nat.le_refl _⟩ rfl (Nat.le_of_ble_eq_true rfl) (fun r26 σ25 _ => ?_)
      refine hj_istore (lv' := [(0, .ref a0), (1, .int r14), (2, .int r18), (3, .int r20), (4, .int r26)]) dX3_tellFly_87 (by decide) [1, 2, 3, 4, 0] rfl ?_
      refine hj_iload 4 dX3_tellFly_89 rfl ?_
      refine hj_iconst (-1 : Int32) dX3_tellFly_91 (by decide) ?_
      refine hj_icmp_eq 111 dX3_tellFly_92 (by decide) (fun _ => ?_) (fun _ => ?_)
      · refine hj_loc (lv' := [(0, .ref a0), (1, .int r14), (3, .int r20), (4, .int r26)]) [0, 1, 3, 4] rfl ?_
        exact sX3_tellFly_b111 _ _ _ _ _
      · refine hj_aload_n 0 dX3_tellFly_95 rfl ?_
        refine hj_iload_n 3 dX3_tellFly_96 rfl ?_
        refine hj_iconst (0 : Int32) dX3_tellFly_97 (by decide) ?_
        refine hj_aload_n 0 dX3_tellFly_98 rfl ?_
        refine hj_getR flX3_37 dX3_tellFly_99 (fun t27 _ => ?_)
        refine hj_getR flX3_143 dX3_tellFly_102 (fun t28 _ => ?_)
        refine hj_iload 4 dX3_tellFly_105 rfl ?_
        refine hj_iald dX3_tellFly_107 (fun t29 _ => ?_)
        refine hj_callV (ci := 3) (M' := mX3_checkInt) (h' := 2) (As := [.int r20, .int ((0 : Int32)), .int t29]) mfX3_checkInt mvX3_checkInt ⟨_, _, rfl⟩ mlX3_91 dX3_tellFly_108 (kX3_checkInt G _ _ _ _ _) (fun _ hr => cX3_checkIntk hr) ⟨Nat.le_of_ble_eq_true rfl, Nat.le_of_ble_eq_true rfl⟩ ⟨Nat.le_refl _, Nat.le_refl _⟩ rfl (Nat.le_of_ble_eq_true rfl) (fun _ σ30 _ => ?_)
        refine hj_loc (lv' := [(0, .ref a0), (1, .int r14), (3, .int r20), (4, .int r26)]) [0, 1, 3, 4] rfl ?_
        exact sX3_tellFly_b111 _ _ _ _ _
    · exact hj_vret dX3_tellFly_73 rfl rfl (Nat.le_refl _)
  · refine hj_aload_n 0 dX3_tellFly_9 rfl ?_
    refine hj_iconst (2 : Int32) dX3_tellFly_10 (by decide) ?_
    refine hj_callV (ci := 3) (M' := mX3_fail) (h' := 1) (As := [.int ((2 : Int32))]) mfX3_fail mvX3_fail ⟨_, _, rfl⟩ mlX3_66 dX3_tellFly_11 (kX3_fail G _ _ _) (fun _ hr => cX3_failk hr) ⟨Nat.le_of_ble_eq_true rfl, Nat.le_of_ble_eq_true rfl⟩ ⟨Nat.le_refl _, Nat.le_refl _⟩ rfl (Nat.le_of_ble_eq_true rfl) (fun _ σ31 _ => ?_)
    exact hj_vret dX3_tellFly_14 rfl rfl (Nat.le_refl _)
theorem cX3_tellFlyk {a0 : Nat} {σ : Sto} {r : Unit × Sto} (h : fX3_tellFly a0 σ = some r) : ∃ fs, hs_o σ 3 a0 = some fs := (ck_of h).1
def fX3_unit_b90 (E_ : Nat → Int32 → Sto → Option (Unit × Sto)) (x0 : Nat) (x1 : Int32) (x2 : Int32) (σ : Sto) : Option (Unit × Sto) := (if x2 = (40 : Int32) then (if x1 = (6 : Int32) then (cb (fX3_fail x0 ((2 : Int32)) σ) fun _ σ6 => (some ((), σ6))) else (cb (fX3_take x0 ((40 : Int32)) σ) fun r2 σ1 => (cb (E_ x0 ((x1 + ((1 : Int32)))) σ1) fun _ σ3 => (cb (fX3_take x0 ((41 : Int32)) σ3) fun r5 σ4 => (some ((), σ4)))))) else (cb (fX3_fail x0 ((1 : Int32)) σ) fun _ σ7 => (some ((), σ7))))
set_option maxHeartbeats 2000000 in
theorem sX3_unit_b90 {G : GP} {n0 : Nat} {dh : Nat} (hdh : 3 ≤ dh) {E_ : Nat → Int32 → Sto → Option (Unit × Sto)} (hE_ : ∀ (a0 : Nat) (a1 : Int32) (σ : Sto), Me G mX3_expression dh 0 0 jV [.ref a0, .int a1] σ (E_ a0 a1 σ)) (ckE_ : ∀ (a0 : Nat) (a1 : Int32) (σ : Sto) (r : Unit × Sto), E_ a0 a1 σ = some r → ∃ fs, hs_o σ 3 a0 = some fs) : ∀ (x0 : Nat) (x1 : Int32) (x2 : Int32) (σ : Sto), Sim G mX3_unit (dh + 1) 0 0 n0 jV 0 0 90 [(0, .ref x0), (1, .int x1), (2, .int x2)] [] σ (fX3_unit_b90 E_ x0 x1 x2 σ) := by
  intro x0 x1 x2 σ
  unfold fX3_unit_b90
  refine hj_iload_n 2 dX3_unit_90 rfl ?_
  refine hj_bipush (40 : Int32) dX3_unit_91 (by decide) ?_
  refine hj_icmp_eq 104 dX3_unit_93 (by decide) (fun _ => ?_) (fun _ => ?_)
  · refine hj_iload_n 1 dX3_unit_104 rfl ?_
    refine hj_bipush (6 : Int32) dX3_unit_105 (by decide) ?_
    refine hj_icmp_ne 118 dX3_unit_107 (by decide) (fun _ => ?_) (fun _ => ?_)
    · refine hj_aload_n 0 dX3_unit_118 rfl ?_
      refine hj_bipush (40 : Int32) dX3_unit_119 (by decide) ?_
      refine hj_callV (ci := 3) (M' := mX3_take) (h' := 2) (As := [.int ((40 : Int32))]) mfX3_take mvX3_take ⟨_, _, rfl⟩ mlX3_75 dX3_unit_121 (kX3_take G _ _ _) (fun _ hr => cX3_takek hr) ⟨by show 2 + 1 ≤ dh + 1; omega, by show 8 + (3 + 11) + 64 * (2) ≤ 64 * (dh + 1); omega⟩ ⟨Nat.le_refl _, Nat.le_refl _⟩ rfl (Nat.le_of_ble_eq_true rfl) (fun r2 σ1 _ => ?_)
      refine hj_pop dX3_unit_124 rfl ?_
      refine hj_aload_n 0 dX3_unit_125 rfl ?_
      refine hj_iload_n 1 dX3_unit_126 rfl ?_
      refine hj_iconst (1 : Int32) dX3_unit_127 (by decide) ?_
      refine hj_iadd dX3_unit_128 ?_
      refine hj_callV (ci := 3) (M' := mX3_expression) (h' := dh) (As := [.int ((x1 + ((1 : Int32))))]) mfX3_expression mvX3_expression ⟨_, _, rfl⟩ mlX3_108 dX3_unit_129 (hE_ _ _ _) (ckE_ _ _ _) ⟨by show dh + 1 ≤ dh + 1; omega, by show 8 + (4 + 11) + 64 * (dh) ≤ 64 * (dh + 1); omega⟩ ⟨Nat.le_refl _, Nat.le_refl _⟩ rfl (Nat.le_of_ble_eq_true rfl) (fun _ σ3 _ => ?_)
      refine hj_aload_n 0 dX3_unit_132 rfl ?_
      refine hj_bipush (41 : Int32) dX3_unit_133 (by decide) ?_
      refine hj_callV (ci := 3) (M' := mX3_take) (h' := 2) (As := [.int ((41 : Int32))]) mfX3_take mvX3_take ⟨_, _, rfl⟩ mlX3_75 dX3_unit_135 (kX3_take G _ _ _) (fun _ hr => cX3_takek hr) ⟨by show 2 + 1 ≤ dh + 1; omega, by show 8 + (3 + 11) + 64 * (2) ≤ 64 * (dh + 1); omega⟩ ⟨Nat.le_refl _, Nat.le_refl _⟩ rfl (Nat.le_of_ble_eq_true rfl) (fun r5 σ4 _ => ?_)
      refine hj_pop dX3_unit_138 rfl ?_
      exact hj_vret dX3_unit_139 rfl rfl (Nat.le_refl _)
    · refine hj_aload_n 0 dX3_unit_110 rfl ?_
      refine hj_iconst (2 : Int32) dX3_unit_111 (by decide) ?_
      refine hj_callV (ci := 3) (M' := mX3_fail) (h' := 1) (As := [.int ((2 : Int32))]) mfX3_fail mvX3_fail ⟨_, _, rfl⟩ mlX3_66 dX3_unit_112 (kX3_fail G _ _ _) (fun _ hr => cX3_failk hr) ⟨by show 1 + 1 ≤ dh + 1; omega, by show 8 + (2 + 11) + 64 * (1) ≤ 64 * (dh + 1); omega⟩ ⟨Nat.le_refl _, Nat.le_refl _⟩ rfl (Nat.le_of_ble_eq_true rfl) (fun _ σ6 _ => ?_)
      refine hj_goto 139 dX3_unit_115 (by decide) ?_
      exact hj_vret dX3_unit_139 rfl rfl (Nat.le_refl _)
  · refine hj_aload_n 0 dX3_unit_96 rfl ?_
    refine hj_iconst (1 : Int32) dX3_unit_97 (by decide) ?_
    refine hj_callV (ci := 3) (M' := mX3_fail) (h' := 1) (As := [.int ((1 : Int32))]) mfX3_fail mvX3_fail ⟨_, _, rfl⟩ mlX3_66 dX3_unit_98 (kX3_fail G _ _ _) (fun _ hr => cX3_failk hr) ⟨by show 1 + 1 ≤ dh + 1; omega, by show 8 + (2 + 11) + 64 * (1) ≤ 64 * (dh + 1); omega⟩ ⟨Nat.le_refl _, Nat.le_refl _⟩ rfl (Nat.le_of_ble_eq_true rfl) (fun _ σ7 _ => ?_)
    refine hj_goto 139 dX3_unit_101 (by decide) ?_
    exact hj_vret dX3_unit_139 rfl rfl (Nat.le_refl _)
def fX3_unitg (E_ : Nat → Int32 → Sto → Option (Unit × Sto)) (a0 : Nat) (a1 : Int32) (σ : Sto) : Option (Unit × Sto) := ck σ 3 a0 ((gR σ 3 a0 0).bind fun t8 => ((gR σ 9 t8 1).bind fun t9 => ((gI σ 3 a0 2).bind fun t10 => ((aI σ 2 t9 t10).bind fun t11 => ((gI σ 3 a0 3).bind fun t12 => (if t12 = 0 then (if t11 = (17 : Int32) then ((gR σ 3 a0 1).bind fun t18 => ((gR σ 3 a0 0).bind fun t19 => ((gR σ 9 t19 3).bind fun t20 => ((gI σ 3 a0 2).bind fun t21 => ((aL σ 3 t20 t21).bind fun t22 => (cb (fX10_emit t18 ((1 : Int32)) ((t22.toInt32)) σ) fun r24 σ23 => (cb (fX3_take a0 ((17 : Int32)) σ23) fun r26 σ25 => (some ((), σ25))))))))) else (if t11 < (11 : Int32) then (fX3_unit_b90 E_ a0 a1 t11 σ) else (if (15 : Int32) < t11 then (fX3_unit_b90 E_ a0 a1 t11 σ) else ((gR σ 3 a0 1).bind fun t13 => (cb (fX10_emit t13 ((2 : Int32)) t11 σ) fun r15 σ14 => (cb (fX3_take a0 t11 σ14) fun r17 σ16 => (some ((), σ16)))))))) else (some ((), σ))))))))
set_option maxHeartbeats 2000000 in
theorem kX3_unit_o (G : GP) {dh : Nat} (hdh : 3 ≤ dh) {E_ : Nat → Int32 → Sto → Option (Unit × Sto)} (hE_ : ∀ (a0 : Nat) (a1 : Int32) (σ : Sto), Me G mX3_expression dh 0 0 jV [.ref a0, .int a1] σ (E_ a0 a1 σ)) (ckE_ : ∀ (a0 : Nat) (a1 : Int32) (σ : Sto) (r : Unit × Sto), E_ a0 a1 σ = some r → ∃ fs, hs_o σ 3 a0 = some fs) (a0 : Nat) (a1 : Int32) (σ : Sto) : Me G mX3_unit (dh + 1) 0 0 jV [.ref a0, .int a1] σ (fX3_unitg E_ a0 a1 σ) := by
  refine hs_me (lv := [(0, .ref a0), (1, .int a1)]) (plainFor_of_name (by decide +kernel)) (Nat.le_of_ble_eq_true rfl) rfl ?_
  unfold fX3_unitg
  refine hj_ck ?_
  refine hj_aload_n 0 dX3_unit_0 rfl ?_
  refine hj_getR flX3_33 dX3_unit_1 (fun t8 _ => ?_)
  refine hj_getR flX3_45 dX3_unit_4 (fun t9 _ => ?_)
  refine hj_aload_n 0 dX3_unit_7 rfl ?_
  refine hj_getI flX3_9 dX3_unit_8 (fun t10 _ => ?_)
  refine hj_iald dX3_unit_11 (fun t11 _ => ?_)
  refine hj_istore_n (lv' := [(0, .ref a0), (1, .int a1), (2, .int t11)]) dX3_unit_12 (by decide) [1, 2, 0] rfl ?_
  refine hj_aload_n 0 dX3_unit_13 rfl ?_
  refine hj_getI flX3_15 dX3_unit_14 (fun t12 _ => ?_)
  refine hj_if_eq 21 dX3_unit_17 (by decide) (fun _ => ?_) (fun _ => ?_)
  · refine hj_iload_n 2 dX3_unit_21 rfl ?_
    refine hj_bipush (17 : Int32) dX3_unit_22 (by decide) ?_
    refine hj_icmp_ne 59 dX3_unit_24 (by decide) (fun _ => ?_) (fun _ => ?_)
    · refine hj_iload_n 2 dX3_unit_59 rfl ?_
      refine hj_bipush (11 : Int32) dX3_unit_60 (by decide) ?_
      refine hj_icmp_lt 90 dX3_unit_62 (by decide) (fun _ => ?_) (fun _ => ?_)
      · refine hj_loc (lv' := [(0, .ref a0), (1, .int a1), (2, .int t11)]) [0, 1, 2] rfl ?_
        exact sX3_unit_b90 hdh hE_ ckE_ _ _ _ _
      · refine hj_iload_n 2 dX3_unit_65 rfl ?_
        refine hj_bipush (15 : Int32) dX3_unit_66 (by decide) ?_
        refine hj_icmp_gt 90 dX3_unit_68 (by decide) (fun _ => ?_) (fun _ => ?_)
        · refine hj_loc (lv' := [(0, .ref a0), (1, .int a1), (2, .int t11)]) [0, 1, 2] rfl ?_
          exact sX3_unit_b90 hdh hE_ ckE_ _ _ _ _
        · refine hj_aload_n 0 dX3_unit_71 rfl ?_
          refine hj_getR flX3_37 dX3_unit_72 (fun t13 _ => ?_)
          refine hj_iconst (2 : Int32) dX3_unit_75 (by decide) ?_
          refine hj_iload_n 2 dX3_unit_76 rfl ?_
          refine hj_callV (ci := 10) (M' := mX10_emit) (h' := 1) (As := [.int ((2 : Int32)), .int t11]) mfX10_emit mvX10_emit ⟨_, _, rfl⟩ mlX3_111 dX3_unit_77 (kX10_emit G _ _ _ _) (fun _ hr => cX10_emitk hr) ⟨by show 1 + 1 ≤ dh + 1; omega, by show 8 + (3 + 11) + 64 * (1) ≤ 64 * (dh + 1); omega⟩ ⟨Nat.le_refl _, Nat.le_refl _⟩ rfl (Nat.le_of_ble_eq_true rfl) (fun r15 σ14 _ => ?_)
          refine hj_pop dX3_unit_80 rfl ?_
          refine hj_aload_n 0 dX3_unit_81 rfl ?_
          refine hj_iload_n 2 dX3_unit_82 rfl ?_
          refine hj_callV (ci := 3) (M' := mX3_take) (h' := 2) (As := [.int t11]) mfX3_take mvX3_take ⟨_, _, rfl⟩ mlX3_75 dX3_unit_83 (kX3_take G _ _ _) (fun _ hr => cX3_takek hr) ⟨by show 2 + 1 ≤ dh + 1; omega, by show 8 + (3 + 11) + 64 * (2) ≤ 64 * (dh + 1); omega⟩ ⟨Nat.le_refl _, Nat.le_refl _⟩ rfl (Nat.le_of_ble_eq_true rfl) (fun r17 σ16 _ => ?_)
          refine hj_pop dX3_unit_86 rfl ?_
          refine hj_goto 139 dX3_unit_87 (by decide) ?_
          exact hj_vret dX3_unit_139 rfl rfl (Nat.le_refl _)
    · refine hj_aload_n 0 dX3_unit_27 rfl ?_
      refine hj_getR flX3_37 dX3_unit_28 (fun t18 _ => ?_)
      refine hj_iconst (1 : Int32) dX3_unit_31 (by decide) ?_
      refine hj_aload_n 0 dX3_unit_32 rfl ?_
      refine hj_getR flX3_33 dX3_unit_33 (fun t19 _ => ?_)
      refine hj_getR flX3_79 dX3_unit_36 (fun t20 _ => ?_)
      refine hj_aload_n 0 dX3_unit_39 rfl ?_
      refine hj_getI flX3_9 dX3_unit_40 (fun t21 _ => ?_)
      refine hj_lald dX3_unit_43 (fun t22 _ => ?_)
      refine hj_l2i dX3_unit_44 ?_
      refine hj_callV (ci := 10) (M' := mX10_emit) (h' := 1) (As := [.int ((1 : Int32)), .int ((t22.toInt32))]) mfX10_emit mvX10_emit ⟨_, _, rfl⟩ mlX3_111 dX3_unit_45 (kX10_emit G _ _ _ _) (fun _ hr => cX10_emitk hr) ⟨by show 1 + 1 ≤ dh + 1; omega, by show 8 + (3 + 11) + 64 * (1) ≤ 64 * (dh + 1); omega⟩ ⟨Nat.le_refl _, Nat.le_refl _⟩ rfl (Nat.le_of_ble_eq_true rfl) (fun r24 σ23 _ => ?_)
      refine hj_pop dX3_unit_48 rfl ?_
      refine hj_aload_n 0 dX3_unit_49 rfl ?_
      refine hj_bipush (17 : Int32) dX3_unit_50 (by decide) ?_
      refine hj_callV (ci := 3) (M' := mX3_take) (h' := 2) (As := [.int ((17 : Int32))]) mfX3_take mvX3_take ⟨_, _, rfl⟩ mlX3_75 dX3_unit_52 (kX3_take G _ _ _) (fun _ hr => cX3_takek hr) ⟨by show 2 + 1 ≤ dh + 1; omega, by show 8 + (3 + 11) + 64 * (2) ≤ 64 * (dh + 1); omega⟩ ⟨Nat.le_refl _, Nat.le_refl _⟩ rfl (Nat.le_of_ble_eq_true rfl) (fun r26 σ25 _ => ?_)
      refine hj_pop dX3_unit_55 rfl ?_
      refine hj_goto 139 dX3_unit_56 (by decide) ?_
      exact hj_vret dX3_unit_139 rfl rfl (Nat.le_refl _)
  · exact hj_vret dX3_unit_20 rfl rfl (Nat.le_refl _)
def fX3_part_b47 (U_ : Nat → Int32 → Sto → Option (Unit × Sto)) (K7 : Nat → Int32 → Int32 → Sto → Option (Unit × Sto)) (x0 : Nat) (x1 : Int32) (x2 : Int32) (x3 : Int32) (σ : Sto) : Option (Unit × Sto) := (cb (fX3_take x0 x3 σ) fun r2 σ1 => (cb (U_ x0 x1 σ1) fun _ σ3 => ((gR σ3 3 x0 1).bind fun t4 => (cb (fX10_emit t4 x3 ((0 : Int32)) σ3) fun r6 σ5 => (K7 x0 x1 (x2 + (1 : Int32)) σ5)))))
set_option maxHeartbeats 2000000 in
theorem sX3_part_b47 {G : GP} {n0 : Nat} {dh : Nat} (hdh : 3 ≤ dh) {U_ : Nat → Int32 → Sto → Option (Unit × Sto)} (hU_ : ∀ (a0 : Nat) (a1 : Int32) (σ : Sto), Me G mX3_unit dh 0 0 jV [.ref a0, .int a1] σ (U_ a0 a1 σ)) (ckU_ : ∀ (a0 : Nat) (a1 : Int32) (σ : Sto) (r : Unit × Sto), U_ a0 a1 σ = some r → ∃ fs, hs_o σ 3 a0 = some fs) {K7 : Nat → Int32 → Int32 → Sto → Option (Unit × Sto)} (hK7 : ∀ (x0 : Nat) (x1 : Int32) (x2 : Int32) (σ : Sto), Sim G mX3_part (dh + 1) 0 0 n0 jV 0 0 7 [(0, .ref x0), (1, .int x1), (2, .int x2)] [] σ (K7 x0 x1 x2 σ)) : ∀ (x0 : Nat) (x1 : Int32) (x2 : Int32) (x3 : Int32) (σ : Sto), Sim G mX3_part (dh + 1) 0 0 n0 jV 0 0 47 [(0, .ref x0), (1, .int x1), (2, .int x2), (3, .int x3)] [] σ (fX3_part_b47 U_ K7 x0 x1 x2 x3 σ) := by
  intro x0 x1 x2 x3 σ
  unfold fX3_part_b47
  refine hj_aload_n 0 dX3_part_47 rfl ?_
  refine hj_iload_n 3 dX3_part_48 rfl ?_
  refine hj_callV (ci := 3) (M' := mX3_take) (h' := 2) (As := [.int x3]) mfX3_take mvX3_take ⟨_, _, rfl⟩ mlX3_75 dX3_part_49 (kX3_take G _ _ _) (fun _ hr => cX3_takek hr) ⟨by show 2 + 1 ≤ dh + 1; omega, by show 8 + (3 + 11) + 64 * (2) ≤ 64 * (dh + 1); omega⟩ ⟨Nat.le_refl _, Nat.le_refl _⟩ rfl (Nat.le_of_ble_eq_true rfl) (fun r2 σ1 _ => ?_)
  refine hj_pop dX3_part_52 rfl ?_
  refine hj_aload_n 0 dX3_part_53 rfl ?_
  refine hj_iload_n 1 dX3_part_54 rfl ?_
  refine hj_callV (ci := 3) (M' := mX3_unit) (h' := dh) (As := [.int x1]) mfX3_unit mvX3_unit ⟨_, _, rfl⟩ mlX3_152 dX3_part_55 (hU_ _ _ _) (ckU_ _ _ _) ⟨by show dh + 1 ≤ dh + 1; omega, by show 8 + (3 + 11) + 64 * (dh) ≤ 64 * (dh + 1); omega⟩ ⟨Nat.le_refl _, Nat.le_refl _⟩ rfl (Nat.le_of_ble_eq_true rfl) (fun _ σ3 _ => ?_)
  refine hj_aload_n 0 dX3_part_58 rfl ?_
  refine hj_getR flX3_37 dX3_part_59 (fun t4 _ => ?_)
  refine hj_iload_n 3 dX3_part_62 rfl ?_
  refine hj_iconst (0 : Int32) dX3_part_63 (by decide) ?_
  refine hj_callV (ci := 10) (M' := mX10_emit) (h' := 1) (As := [.int x3, .int ((0 : Int32))]) mfX10_emit mvX10_emit ⟨_, _, rfl⟩ mlX3_111 dX3_part_64 (kX10_emit G _ _ _ _) (fun _ hr => cX10_emitk hr) ⟨by show 1 + 1 ≤ dh + 1; omega, by show 8 + (3 + 11) + 64 * (1) ≤ 64 * (dh + 1); omega⟩ ⟨Nat.le_refl _, Nat.le_refl _⟩ rfl (Nat.le_of_ble_eq_true rfl) (fun r6 σ5 _ => ?_)
  refine hj_pop dX3_part_67 rfl ?_
  refine hj_iinc (lv' := [(0, .ref x0), (1, .int x1), (2, .int (x2 + (1 : Int32))), (3, .int x3)]) 2 (1 : Int32) dX3_part_68 rfl (by decide) (by decide) [1, 2, 0, 3] rfl ?_
  refine hj_goto 7 dX3_part_71 (by decide) ?_
  refine hj_loc (lv' := [(0, .ref x0), (1, .int x1), (2, .int (x2 + (1 : Int32)))]) [0, 1, 2] rfl ?_
  exact hK7 _ _ _ _
def fX3_part_b7 (U_ : Nat → Int32 → Sto → Option (Unit × Sto)) : Nat → Nat → Int32 → Int32 → Sto → Option (Unit × Sto)
  | 0, _, _, _, _ => none
  | n + 1, x0, x1, x2, σ => (if (400 : Int32) < x2 then (some ((), σ)) else ((gI σ 3 x0 3).bind fun t7 => (if t7 = 0 then ((gR σ 3 x0 0).bind fun t8 => ((gR σ 9 t8 1).bind fun t9 => ((gI σ 3 x0 2).bind fun t10 => ((aI σ 2 t9 t10).bind fun t11 => (if t11 = (42 : Int32) then (fX3_part_b47 U_ (fX3_part_b7 U_ n) x0 x1 x2 t11 σ) else (if t11 = (47 : Int32) then (fX3_part_b47 U_ (fX3_part_b7 U_ n) x0 x1 x2 t11 σ) else (some ((), σ)))))))) else (some ((), σ)))))
set_option maxHeartbeats 2000000 in
theorem sX3_part_b7 {G : GP} {n0 : Nat} {dh : Nat} (hdh : 3 ≤ dh) {U_ : Nat → Int32 → Sto → Option (Unit × Sto)} (hU_ : ∀ (a0 : Nat) (a1 : Int32) (σ : Sto), Me G mX3_unit dh 0 0 jV [.ref a0, .int a1] σ (U_ a0 a1 σ)) (ckU_ : ∀ (a0 : Nat) (a1 : Int32) (σ : Sto) (r : Unit × Sto), U_ a0 a1 σ = some r → ∃ fs, hs_o σ 3 a0 = some fs) : ∀ (n : Nat) (x0 : Nat) (x1 : Int32) (x2 : Int32) (σ : Sto), Sim G mX3_part (dh + 1) 0 0 n0 jV 0 0 7 [(0, .ref x0), (1, .int x1), (2, .int x2)] [] σ (fX3_part_b7 U_ n x0 x1 x2 σ) := by
  intro n
  induction n with
  | zero => intros; rw [fX3_part_b7]; exact hj_none
  | succ n ih =>
    intro x0 x1 x2 σ
    rw [fX3_part_b7]
    refine hj_iload_n 2 dX3_part_7 rfl ?_
    refine hj_sipush (400 : Int32) dX3_part_8 (by decide) ?_
    refine hj_icmp_gt 74 dX3_part_11 (by decide) (fun _ => ?_) (fun _ => ?_)
    · exact hj_vret dX3_part_74 rfl rfl (Nat.le_refl _)
    · refine hj_aload_n 0 dX3_part_14 rfl ?_
      refine hj_getI flX3_15 dX3_part_15 (fun t7 _ => ?_)
      refine hj_if_ne 74 dX3_part_18 (by decide) (fun _ => ?_) (fun _ => ?_)
      · exact hj_vret dX3_part_74 rfl rfl (Nat.le_refl _)
      · refine hj_aload_n 0 dX3_part_21 rfl ?_
        refine hj_getR flX3_33 dX3_part_22 (fun t8 _ => ?_)
        refine hj_getR flX3_45 dX3_part_25 (fun t9 _ => ?_)
        refine hj_aload_n 0 dX3_part_28 rfl ?_
        refine hj_getI flX3_9 dX3_part_29 (fun t10 _ => ?_)
        refine hj_iald dX3_part_32 (fun t11 _ => ?_)
        refine hj_istore_n (lv' := [(0, .ref x0), (1, .int x1), (2, .int x2), (3, .int t11)]) dX3_part_33 (by decide) [1, 2, 3, 0] rfl ?_
        refine hj_iload_n 3 dX3_part_34 rfl ?_
        refine hj_bipush (42 : Int32) dX3_part_35 (by decide) ?_
        refine hj_icmp_eq 47 dX3_part_37 (by decide) (fun _ => ?_) (fun _ => ?_)
        · refine hj_loc (lv' := [(0, .ref x0), (1, .int x1), (2, .int x2), (3, .int t11)]) [0, 1, 2, 3] rfl ?_
          exact sX3_part_b47 hdh hU_ ckU_ ih _ _ _ _ _
        · refine hj_iload_n 3 dX3_part_40 rfl ?_
          refine hj_bipush (47 : Int32) dX3_part_41 (by decide) ?_
          refine hj_icmp_eq 47 dX3_part_43 (by decide) (fun _ => ?_) (fun _ => ?_)
          · refine hj_loc (lv' := [(0, .ref x0), (1, .int x1), (2, .int x2), (3, .int t11)]) [0, 1, 2, 3] rfl ?_
            exact sX3_part_b47 hdh hU_ ckU_ ih _ _ _ _ _
          · exact hj_vret dX3_part_46 rfl rfl (Nat.le_refl _)
def fX3_partg (U_ : Nat → Int32 → Sto → Option (Unit × Sto)) (a0 : Nat) (a1 : Int32) (σ : Sto) : Option (Unit × Sto) := ck σ 3 a0 (cb (U_ a0 a1 σ) fun _ σ12 => (fX3_part_b7 U_ FU a0 a1 ((0 : Int32)) σ12))
set_option maxHeartbeats 2000000 in
theorem kX3_part_o (G : GP) {dh : Nat} (hdh : 3 ≤ dh) {U_ : Nat → Int32 → Sto → Option (Unit × Sto)} (hU_ : ∀ (a0 : Nat) (a1 : Int32) (σ : Sto), Me G mX3_unit dh 0 0 jV [.ref a0, .int a1] σ (U_ a0 a1 σ)) (ckU_ : ∀ (a0 : Nat) (a1 : Int32) (σ : Sto) (r : Unit × Sto), U_ a0 a1 σ = some r → ∃ fs, hs_o σ 3 a0 = some fs) (a0 : Nat) (a1 : Int32) (σ : Sto) : Me G mX3_part (dh + 1) 0 0 jV [.ref a0, .int a1] σ (fX3_partg U_ a0 a1 σ) := by
  refine hs_me (lv := [(0, .ref a0), (1, .int a1)]) (plainFor_of_name (by decide +kernel)) (Nat.le_of_ble_eq_true rfl) rfl ?_
  unfold fX3_partg
  refine hj_ck ?_
  refine hj_aload_n 0 dX3_part_0 rfl ?_
  refine hj_iload_n 1 dX3_part_1 rfl ?_
  refine hj_callV (ci := 3) (M' := mX3_unit) (h' := dh) (As := [.int a1]) mfX3_unit mvX3_unit ⟨_, _, rfl⟩ mlX3_152 dX3_part_2 (hU_ _ _ _) (ckU_ _ _ _) ⟨by show dh + 1 ≤ dh + 1; omega, by show 8 + (3 + 11) + 64 * (dh) ≤ 64 * (dh + 1); omega⟩ ⟨Nat.le_refl _, Nat.le_refl _⟩ rfl (Nat.le_of_ble_eq_true rfl) (fun _ σ12 _ => ?_)
  refine hj_iconst (0 : Int32) dX3_part_5 (by decide) ?_
  refine hj_istore_n (lv' := [(0, .ref a0), (1, .int a1), (2, .int (0 : Int32))]) dX3_part_6 (by decide) [1, 2, 0] rfl ?_
  refine hj_loc (lv' := [(0, .ref a0), (1, .int a1), (2, .int (0 : Int32))]) [0, 1, 2] rfl ?_
  exact sX3_part_b7 hdh hU_ ckU_ _ _ _ _ _
def fX3_expression_b47 (P_ : Nat → Int32 → Sto → Option (Unit × Sto)) (K7 : Nat → Int32 → Int32 → Sto → Option (Unit × Sto)) (x0 : Nat) (x1 : Int32) (x2 : Int32) (x3 : Int32) (σ : Sto) : Option (Unit × Sto) := (cb (fX3_take x0 x3 σ) fun r2 σ1 => (cb (P_ x0 x1 σ1) fun _ σ3 => ((gR σ3 3 x0 1).bind fun t4 => (cb (fX10_emit t4 x3 ((0 : Int32)) σ3) fun r6 σ5 => (K7 x0 x1 (x2 + (1 : Int32)) σ5)))))
set_option maxHeartbeats 2000000 in
theorem sX3_expression_b47 {G : GP} {n0 : Nat} {dh : Nat} (hdh : 3 ≤ dh) {P_ : Nat → Int32 → Sto → Option (Unit × Sto)} (hP_ : ∀ (a0 : Nat) (a1 : Int32) (σ : Sto), Me G mX3_part dh 0 0 jV [.ref a0, .int a1] σ (P_ a0 a1 σ)) (ckP_ : ∀ (a0 : Nat) (a1 : Int32) (σ : Sto) (r : Unit × Sto), P_ a0 a1 σ = some r → ∃ fs, hs_o σ 3 a0 = some fs) {K7 : Nat → Int32 → Int32 → Sto → Option (Unit × Sto)} (hK7 : ∀ (x0 : Nat) (x1 : Int32) (x2 : Int32) (σ : Sto), Sim G mX3_expression (dh + 1) 0 0 n0 jV 0 0 7 [(0, .ref x0), (1, .int x1), (2, .int x2)] [] σ (K7 x0 x1 x2 σ)) : ∀ (x0 : Nat) (x1 : Int32) (x2 : Int32) (x3 : Int32) (σ : Sto), Sim G mX3_expression (dh + 1) 0 0 n0 jV 0 0 47 [(0, .ref x0), (1, .int x1), (2, .int x2), (3, .int x3)] [] σ (fX3_expression_b47 P_ K7 x0 x1 x2 x3 σ) := by
  intro x0 x1 x2 x3 σ
  unfold fX3_expression_b47
  refine hj_aload_n 0 dX3_expression_47 rfl ?_
  refine hj_iload_n 3 dX3_expression_48 rfl ?_
  refine hj_callV (ci := 3) (M' := mX3_take) (h' := 2) (As := [.int x3]) mfX3_take mvX3_take ⟨_, _, rfl⟩ mlX3_75 dX3_expression_49 (kX3_take G _ _ _) (fun _ hr => cX3_takek hr) ⟨by show 2 + 1 ≤ dh + 1; omega, by show 8 + (3 + 11) + 64 * (2) ≤ 64 * (dh + 1); omega⟩ ⟨Nat.le_refl _, Nat.le_refl _⟩ rfl (Nat.le_of_ble_eq_true rfl) (fun r2 σ1 _ => ?_)
  refine hj_pop dX3_expression_52 rfl ?_
  refine hj_aload_n 0 dX3_expression_53 rfl ?_
  refine hj_iload_n 1 dX3_expression_54 rfl ?_
  refine hj_callV (ci := 3) (M' := mX3_part) (h' := dh) (As := [.int x1]) mfX3_part mvX3_part ⟨_, _, rfl⟩ mlX3_149 dX3_expression_55 (hP_ _ _ _) (ckP_ _ _ _) ⟨by show dh + 1 ≤ dh + 1; omega, by show 8 + (4 + 11) + 64 * (dh) ≤ 64 * (dh + 1); omega⟩ ⟨Nat.le_refl _, Nat.le_refl _⟩ rfl (Nat.le_of_ble_eq_true rfl) (fun _ σ3 _ => ?_)
  refine hj_aload_n 0 dX3_expression_58 rfl ?_
  refine hj_getR flX3_37 dX3_expression_59 (fun t4 _ => ?_)
  refine hj_iload_n 3 dX3_expression_62 rfl ?_
  refine hj_iconst (0 : Int32) dX3_expression_63 (by decide) ?_
  refine hj_callV (ci := 10) (M' := mX10_emit) (h' := 1) (As := [.int x3, .int ((0 : Int32))]) mfX10_emit mvX10_emit ⟨_, _, rfl⟩ mlX3_111 dX3_expression_64 (kX10_emit G _ _ _ _) (fun _ hr => cX10_emitk hr) ⟨by show 1 + 1 ≤ dh + 1; omega, by show 8 + (3 + 11) + 64 * (1) ≤ 64 * (dh + 1); omega⟩ ⟨Nat.le_refl _, Nat.le_refl _⟩ rfl (Nat.le_of_ble_eq_true rfl) (fun r6 σ5 _ => ?_)
  refine hj_pop dX3_expression_67 rfl ?_
  refine hj_iinc (lv' := [(0, .ref x0), (1, .int x1), (2, .int (x2 + (1 : Int32))), (3, .int x3)]) 2 (1 : Int32) dX3_expression_68 rfl (by decide) (by decide) [1, 2, 0, 3] rfl ?_
  refine hj_goto 7 dX3_expression_71 (by decide) ?_
  refine hj_loc (lv' := [(0, .ref x0), (1, .int x1), (2, .int (x2 + (1 : Int32)))]) [0, 1, 2] rfl ?_
  exact hK7 _ _ _ _
def fX3_expression_b7 (P_ : Nat → Int32 → Sto → Option (Unit × Sto)) : Nat → Nat → Int32 → Int32 → Sto → Option (Unit × Sto)
  | 0, _, _, _, _ => none
  | n + 1, x0, x1, x2, σ => (if (400 : Int32) < x2 then (some ((), σ)) else ((gI σ 3 x0 3).bind fun t7 => (if t7 = 0 then ((gR σ 3 x0 0).bind fun t8 => ((gR σ 9 t8 1).bind fun t9 => ((gI σ 3 x0 2).bind fun t10 => ((aI σ 2 t9 t10).bind fun t11 => (if t11 = (43 : Int32) then (fX3_expression_b47 P_ (fX3_expression_b7 P_ n) x0 x1 x2 t11 σ) else (if t11 = (45 : Int32) then (fX3_expression_b47 P_ (fX3_expression_b7 P_ n) x0 x1 x2 t11 σ) else (some ((), σ)))))))) else (some ((), σ)))))
set_option maxHeartbeats 2000000 in
theorem sX3_expression_b7 {G : GP} {n0 : Nat} {dh : Nat} (hdh : 3 ≤ dh) {P_ : Nat → Int32 → Sto → Option (Unit × Sto)} (hP_ : ∀ (a0 : Nat) (a1 : Int32) (σ : Sto), Me G mX3_part dh 0 0 jV [.ref a0, .int a1] σ (P_ a0 a1 σ)) (ckP_ : ∀ (a0 : Nat) (a1 : Int32) (σ : Sto) (r : Unit × Sto), P_ a0 a1 σ = some r → ∃ fs, hs_o σ 3 a0 = some fs) : ∀ (n : Nat) (x0 : Nat) (x1 : Int32) (x2 : Int32) (σ : Sto), Sim G mX3_expression (dh + 1) 0 0 n0 jV 0 0 7 [(0, .ref x0), (1, .int x1), (2, .int x2)] [] σ (fX3_expression_b7 P_ n x0 x1 x2 σ) := by
  intro n
  induction n with
  | zero => intros; rw [fX3_expression_b7]; exact hj_none
  | succ n ih =>
    intro x0 x1 x2 σ
    rw [fX3_expression_b7]
    refine hj_iload_n 2 dX3_expression_7 rfl ?_
    refine hj_sipush (400 : Int32) dX3_expression_8 (by decide) ?_
    refine hj_icmp_gt 74 dX3_expression_11 (by decide) (fun _ => ?_) (fun _ => ?_)
    · exact hj_vret dX3_expression_74 rfl rfl (Nat.le_refl _)
    · refine hj_aload_n 0 dX3_expression_14 rfl ?_
      refine hj_getI flX3_15 dX3_expression_15 (fun t7 _ => ?_)
      refine hj_if_ne 74 dX3_expression_18 (by decide) (fun _ => ?_) (fun _ => ?_)
      · exact hj_vret dX3_expression_74 rfl rfl (Nat.le_refl _)
      · refine hj_aload_n 0 dX3_expression_21 rfl ?_
        refine hj_getR flX3_33 dX3_expression_22 (fun t8 _ => ?_)
        refine hj_getR flX3_45 dX3_expression_25 (fun t9 _ => ?_)
        refine hj_aload_n 0 dX3_expression_28 rfl ?_
        refine hj_getI flX3_9 dX3_expression_29 (fun t10 _ => ?_)
        refine hj_iald dX3_expression_32 (fun t11 _ => ?_)
        refine hj_istore_n (lv' := [(0, .ref x0), (1, .int x1), (2, .int x2), (3, .int t11)]) dX3_expression_33 (by decide) [1, 2, 3, 0] rfl ?_
        refine hj_iload_n 3 dX3_expression_34 rfl ?_
        refine hj_bipush (43 : Int32) dX3_expression_35 (by decide) ?_
        refine hj_icmp_eq 47 dX3_expression_37 (by decide) (fun _ => ?_) (fun _ => ?_)
        · refine hj_loc (lv' := [(0, .ref x0), (1, .int x1), (2, .int x2), (3, .int t11)]) [0, 1, 2, 3] rfl ?_
          exact sX3_expression_b47 hdh hP_ ckP_ ih _ _ _ _ _
        · refine hj_iload_n 3 dX3_expression_40 rfl ?_
          refine hj_bipush (45 : Int32) dX3_expression_41 (by decide) ?_
          refine hj_icmp_eq 47 dX3_expression_43 (by decide) (fun _ => ?_) (fun _ => ?_)
          · refine hj_loc (lv' := [(0, .ref x0), (1, .int x1), (2, .int x2), (3, .int t11)]) [0, 1, 2, 3] rfl ?_
            exact sX3_expression_b47 hdh hP_ ckP_ ih _ _ _ _ _
          · exact hj_vret dX3_expression_46 rfl rfl (Nat.le_refl _)
def fX3_expressiong (P_ : Nat → Int32 → Sto → Option (Unit × Sto)) (a0 : Nat) (a1 : Int32) (σ : Sto) : Option (Unit × Sto) := ck σ 3 a0 (cb (P_ a0 a1 σ) fun _ σ12 => (fX3_expression_b7 P_ FU a0 a1 ((0 : Int32)) σ12))
set_option maxHeartbeats 2000000 in
theorem kX3_expression_o (G : GP) {dh : Nat} (hdh : 3 ≤ dh) {P_ : Nat → Int32 → Sto → Option (Unit × Sto)} (hP_ : ∀ (a0 : Nat) (a1 : Int32) (σ : Sto), Me G mX3_part dh 0 0 jV [.ref a0, .int a1] σ (P_ a0 a1 σ)) (ckP_ : ∀ (a0 : Nat) (a1 : Int32) (σ : Sto) (r : Unit × Sto), P_ a0 a1 σ = some r → ∃ fs, hs_o σ 3 a0 = some fs) (a0 : Nat) (a1 : Int32) (σ : Sto) : Me G mX3_expression (dh + 1) 0 0 jV [.ref a0, .int a1] σ (fX3_expressiong P_ a0 a1 σ) := by
  refine hs_me (lv := [(0, .ref a0), (1, .int a1)]) (plainFor_of_name (by decide +kernel)) (Nat.le_of_ble_eq_true rfl) rfl ?_
  unfold fX3_expressiong
  refine hj_ck ?_
  refine hj_aload_n 0 dX3_expression_0 rfl ?_
  refine hj_iload_n 1 dX3_expression_1 rfl ?_
  refine hj_callV (ci := 3) (M' := mX3_part) (h' := dh) (As := [.int a1]) mfX3_part mvX3_part ⟨_, _, rfl⟩ mlX3_149 dX3_expression_2 (hP_ _ _ _) (ckP_ _ _ _) ⟨by show dh + 1 ≤ dh + 1; omega, by show 8 + (4 + 11) + 64 * (dh) ≤ 64 * (dh + 1); omega⟩ ⟨Nat.le_refl _, Nat.le_refl _⟩ rfl (Nat.le_of_ble_eq_true rfl) (fun _ σ12 _ => ?_)
  refine hj_iconst (0 : Int32) dX3_expression_5 (by decide) ?_
  refine hj_istore_n (lv' := [(0, .ref a0), (1, .int a1), (2, .int (0 : Int32))]) dX3_expression_6 (by decide) [1, 2, 0] rfl ?_
  refine hj_loc (lv' := [(0, .ref a0), (1, .int a1), (2, .int (0 : Int32))]) [0, 1, 2] rfl ?_
  exact sX3_expression_b7 hdh hP_ ckP_ _ _ _ _ _
def fX3_exprD : Nat → Nat → Int32 → Sto → Option (Unit × Sto)
  | 0 => fun _ _ _ => none
  | d + 1 => fX3_expressiong (fX3_partg (fX3_unitg (fX3_exprD d)))
theorem cX3_exprDk (d : Nat) (a0 : Nat) (a1 : Int32) (σ : Sto) (r : Unit × Sto) (h : fX3_exprD d a0 a1 σ = some r) : ∃ fs, hs_o σ 3 a0 = some fs := by
  cases d with
  | zero => cases h
  | succ d => exact (ck_of h).1
theorem kX3_exprD (G : GP) : ∀ (d : Nat) (a0 : Nat) (a1 : Int32) (σ : Sto), Me G mX3_expression (3 + 3 * d) 0 0 jV [.ref a0, .int a1] σ (fX3_exprD d a0 a1 σ) := by
  intro d
  induction d with
  | zero => intro a0 a1 σ r σ' h; cases h
  | succ d ih =>
    intro a0 a1 σ
    exact kX3_expression_o G (by omega) (kX3_part_o G (by omega) (kX3_unit_o G (by omega) ih (cX3_exprDk d)) (fun _ _ _ _ h => (ck_of h).1)) (fun _ _ _ _ h => (ck_of h).1) a0 a1 σ
def fX3_expression (a0 : Nat) (a1 : Int32) (σ : Sto) : Option (Unit × Sto) := fX3_exprD 8 a0 a1 σ
theorem kX3_expression (G : GP) (a0 : Nat) (a1 : Int32) (σ : Sto) : Me G mX3_expression 27 0 0 jV [.ref a0, .int a1] σ (fX3_expression a0 a1 σ) := kX3_exprD G 8 a0 a1 σ
theorem cX3_expressionk {a0 : Nat} {a1 : Int32} {σ : Sto} {r : Unit × Sto} (h : fX3_expression a0 a1 σ = some r) : ∃ fs, hs_o σ 3 a0 = some fs := cX3_exprDk 8 a0 a1 σ r h
def fX3_tellHeavy_b158 (x0 : Nat) (x2 : Int32) (x3 : Int32) (σ : Sto) : Option (Unit × Sto) := (cb (fX3_expression x0 ((0 : Int32)) σ) fun _ σ26 => ((gR σ26 3 x0 1).bind fun t27 => (cb (fX10_emit t27 ((4 : Int32)) ((0 : Int32)) σ26) fun r29 σ28 => (cb (fX3_take x0 ((59 : Int32)) σ28) fun r31 σ30 => ((gI σ30 3 x0 3).bind fun t32 => (if t32 = 0 then ((gI σ30 3 x0 5).bind fun t33 => (if t33 = 0 then (if x2 = (-1 : Int32) then (some ((), σ30)) else ((gR σ30 3 x0 1).bind fun t34 => ((gR σ30 10 t34 4).bind fun t35 => ((sI σ30 2 t35 x2 x3).bind fun σ36 => (some ((), σ36)))))) else (some ((), σ30)))) else (some ((), σ30))))))))
set_option maxHeartbeats 2000000 in
theorem sX3_tellHeavy_b158 {G : GP} {n0 : Nat} : ∀ (x0 : Nat) (x2 : Int32) (x3 : Int32) (σ : Sto), Sim G mX3_tellHeavy 28 0 0 n0 jV 0 0 158 [(0, .ref x0), (2, .int x2), (3, .int x3)] [] σ (fX3_tellHeavy_b158 x0 x2 x3 σ) := by
  intro x0 x2 x3 σ
  unfold fX3_tellHeavy_b158
  refine hj_aload_n 0 dX3_tellHeavy_158 rfl ?_
  refine hj_iconst (0 : Int32) dX3_tellHeavy_159 (by decide) ?_
  refine hj_callV (ci := 3) (M' := mX3_expression) (h' := 27) (As := [.int ((0 : Int32))]) mfX3_expression mvX3_expression ⟨_, _, rfl⟩ mlX3_108 dX3_tellHeavy_160 (kX3_expression G _ _ _) (fun _ hr => cX3_expressionk hr) ⟨Nat.le_of_ble_eq_true rfl, Nat.le_of_ble_eq_true rfl⟩ ⟨Nat.le_refl _, Nat.le_refl _⟩ rfl (Nat.le_of_ble_eq_true rfl) (fun _ σ26 _ => ?_)
  refine hj_aload_n 0 dX3_tellHeavy_163 rfl ?_
  refine hj_getR flX3_37 dX3_tellHeavy_164 (fun t27 _ => ?_)
  refine hj_iconst (4 : Int32) dX3_tellHeavy_167 (by decide) ?_
  refine hj_iconst (0 : Int32) dX3_tellHeavy_168 (by decide) ?_
  refine hj_callV (ci := 10) (M' := mX10_emit) (h' := 1) (As := [.int ((4 : Int32)), .int ((0 : Int32))]) mfX10_emit mvX10_emit ⟨_, _, rfl⟩ mlX3_111 dX3_tellHeavy_169 (kX10_emit G _ _ _ _) (fun _ hr => cX10_emitk hr) ⟨Nat.le_of_ble_eq_true rfl, Nat.le_of_ble_eq_true rfl⟩ ⟨Nat.le_refl _, Nat.le_refl _⟩ rfl (Nat.le_of_ble_eq_true rfl) (fun r29 σ28 _ => ?_)
  refine hj_pop dX3_tellHeavy_172 rfl ?_
  refine hj_aload_n 0 dX3_tellHeavy_173 rfl ?_
  refine hj_bipush (59 : Int32) dX3_tellHeavy_174 (by decide) ?_
  refine hj_callV (ci := 3) (M' := mX3_take) (h' := 2) (As := [.int ((59 : Int32))]) mfX3_take mvX3_take ⟨_, _, rfl⟩ mlX3_75 dX3_tellHeavy_176 (kX3_take G _ _ _) (fun _ hr => cX3_takek hr) ⟨Nat.le_of_ble_eq_true rfl, Nat.le_of_ble_eq_true rfl⟩ ⟨Nat.le_refl _, Nat.le_refl _⟩ rfl (Nat.le_of_ble_eq_true rfl) (fun r31 σ30 _ => ?_)
  refine hj_pop dX3_tellHeavy_179 rfl ?_
  refine hj_aload_n 0 dX3_tellHeavy_180 rfl ?_
  refine hj_getI flX3_15 dX3_tellHeavy_181 (fun t32 _ => ?_)
  refine hj_if_ne 209 dX3_tellHeavy_184 (by decide) (fun _ => ?_) (fun _ => ?_)
  · exact hj_vret dX3_tellHeavy_209 rfl rfl (Nat.le_refl _)
  · refine hj_aload_n 0 dX3_tellHeavy_187 rfl ?_
    refine hj_getI flX3_21 dX3_tellHeavy_188 (fun t33 _ => ?_)
    refine hj_if_ne 209 dX3_tellHeavy_191 (by decide) (fun _ => ?_) (fun _ => ?_)
    · exact hj_vret dX3_tellHeavy_209 rfl rfl (Nat.le_refl _)
    · refine hj_iload_n 1 dX3_tellHeavy_194 rfl ?_
      refine hj_iconst (-1 : Int32) dX3_tellHeavy_195 (by decide) ?_
      refine hj_icmp_eq 209 dX3_tellHeavy_196 (by decide) (fun _ => ?_) (fun _ => ?_)
      · exact hj_vret dX3_tellHeavy_209 rfl rfl (Nat.le_refl _)
      · refine hj_aload_n 0 dX3_tellHeavy_199 rfl ?_
        refine hj_getR flX3_37 dX3_tellHeavy_200 (fun t34 _ => ?_)
        refine hj_getR flX3_118 dX3_tellHeavy_203 (fun t35 _ => ?_)
        refine hj_iload_n 1 dX3_tellHeavy_206 rfl ?_
        refine hj_iload_n 2 dX3_tellHeavy_207 rfl ?_
        refine hj_iast dX3_tellHeavy_208 (fun σ36 _ => ?_)
        exact hj_vret dX3_tellHeavy_209 rfl rfl (Nat.le_refl _)
def fX3_tellHeavy_b73 (x0 : Nat) (σ : Sto) : Option (Unit × Sto) := (cb (fX3_fail x0 ((2 : Int32)) σ) fun _ σ1 => (some ((), σ1)))
set_option maxHeartbeats 2000000 in
theorem sX3_tellHeavy_b73 {G : GP} {n0 : Nat} : ∀ (x0 : Nat) (σ : Sto), Sim G mX3_tellHeavy 28 0 0 n0 jV 0 0 73 [(0, .ref x0)] [] σ (fX3_tellHeavy_b73 x0 σ) := by
  intro x0 σ
  unfold fX3_tellHeavy_b73
  refine hj_aload_n 0 dX3_tellHeavy_73 rfl ?_
  refine hj_iconst (2 : Int32) dX3_tellHeavy_74 (by decide) ?_
  refine hj_callV (ci := 3) (M' := mX3_fail) (h' := 1) (As := [.int ((2 : Int32))]) mfX3_fail mvX3_fail ⟨_, _, rfl⟩ mlX3_66 dX3_tellHeavy_75 (kX3_fail G _ _ _) (fun _ hr => cX3_failk hr) ⟨Nat.le_of_ble_eq_true rfl, Nat.le_of_ble_eq_true rfl⟩ ⟨Nat.le_refl _, Nat.le_refl _⟩ rfl (Nat.le_of_ble_eq_true rfl) (fun _ σ1 _ => ?_)
  exact hj_vret dX3_tellHeavy_78 rfl rfl (Nat.le_refl _)
def fX3_tellHeavy_b37 : Nat → Nat → Int32 → Int32 → Int32 → Sto → Option (Unit × Sto)
  | 0, _, _, _, _, _ => none
  | n + 1, x0, x2, x3, x4, σ => (if (4 : Int32) < x4 then (fX3_tellHeavy_b158 x0 x2 x3 σ) else ((gI σ 3 x0 3).bind fun t2 => (if t2 = 0 then ((gR σ 3 x0 0).bind fun t3 => ((gR σ 9 t3 1).bind fun t4 => ((gI σ 3 x0 2).bind fun t5 => ((aI σ 2 t4 t5).bind fun t6 => (if t6 = (8 : Int32) then (if x4 = (4 : Int32) then (fX3_tellHeavy_b73 x0 σ) else (cb (fX3_take x0 ((8 : Int32)) σ) fun r8 σ7 => (cb (fX3_expression x0 ((0 : Int32)) σ7) fun _ σ9 => (cb (fX3_take x0 ((60 : Int32)) σ9) fun r11 σ10 => (cb (fX3_expression x0 ((0 : Int32)) σ10) fun _ σ12 => ((gR σ12 3 x0 1).bind fun t13 => (cb (fX10_emit t13 ((3 : Int32)) ((0 : Int32)) σ12) fun r15 σ14 => (cb (fX3_take x0 ((9 : Int32)) σ14) fun r17 σ16 => (cb (fX3_expression x0 ((0 : Int32)) σ16) fun _ σ18 => ((gR σ18 3 x0 1).bind fun t19 => (cb (fX10_emit t19 ((4 : Int32)) ((0 : Int32)) σ18) fun r21 σ20 => (cb (fX3_take x0 ((10 : Int32)) σ20) fun r23 σ22 => ((gR σ22 3 x0 1).bind fun t24 => (cb (fX10_aim t24 r15 σ22) fun _ σ25 => (fX3_tellHeavy_b37 n x0 x2 x3 (x4 + (1 : Int32)) σ25))))))))))))))) else (fX3_tellHeavy_b158 x0 x2 x3 σ)))))) else (fX3_tellHeavy_b158 x0 x2 x3 σ))))
set_option maxHeartbeats 2000000 in
theorem sX3_tellHeavy_b37 {G : GP} {n0 : Nat} : ∀ (n : Nat) (x0 : Nat) (x2 : Int32) (x3 : Int32) (x4 : Int32) (σ : Sto), Sim G mX3_tellHeavy 28 0 0 n0 jV 0 0 37 [(0, .ref x0), (2, .int x2), (3, .int x3), (4, .int x4)] [] σ (fX3_tellHeavy_b37 n x0 x2 x3 x4 σ) := by
  intro n
  induction n with
  | zero => intros; rw [fX3_tellHeavy_b37]; exact hj_none
  | succ n ih =>
    intro x0 x2 x3 x4 σ
    rw [fX3_tellHeavy_b37]
    refine hj_iload 3 dX3_tellHeavy_37 rfl ?_
    refine hj_iconst (4 : Int32) dX3_tellHeavy_39 (by decide) ?_
    refine hj_icmp_gt 158 dX3_tellHeavy_40 (by decide) (fun _ => ?_) (fun _ => ?_)
    · refine hj_loc (lv' := [(0, .ref x0), (2, .int x2), (3, .int x3)]) [0, 1, 2] rfl ?_
      exact sX3_tellHeavy_b158 _ _ _ _
    · refine hj_aload_n 0 dX3_tellHeavy_43 rfl ?_
      refine hj_getI flX3_15 dX3_tellHeavy_44 (fun t2 _ => ?_)
      refine hj_if_ne 158 dX3_tellHeavy_47 (by decide) (fun _ => ?_) (fun _ => ?_)
      · refine hj_loc (lv' := [(0, .ref x0), (2, .int x2), (3, .int x3)]) [0, 1, 2] rfl ?_
        exact sX3_tellHeavy_b158 _ _ _ _
      · refine hj_aload_n 0 dX3_tellHeavy_50 rfl ?_
        refine hj_getR flX3_33 dX3_tellHeavy_51 (fun t3 _ => ?_)
        refine hj_getR flX3_45 dX3_tellHeavy_54 (fun t4 _ => ?_)
        refine hj_aload_n 0 dX3_tellHeavy_57 rfl ?_
        refine hj_getI flX3_9 dX3_tellHeavy_58 (fun t5 _ => ?_)
        refine hj_iald dX3_tellHeavy_61 (fun t6 _ => ?_)
        refine hj_bipush (8 : Int32) dX3_tellHeavy_62 (by decide) ?_
        refine hj_icmp_ne 158 dX3_tellHeavy_64 (by decide) (fun _ => ?_) (fun _ => ?_)
        · refine hj_loc (lv' := [(0, .ref x0), (2, .int x2), (3, .int x3)]) [0, 1, 2] rfl ?_
          exact sX3_tellHeavy_b158 _ _ _ _
        · refine hj_iload 3 dX3_tellHeavy_67 rfl ?_
          refine hj_iconst (4 : Int32) dX3_tellHeavy_69 (by decide) ?_
          refine hj_icmp_ne 79 dX3_tellHeavy_70 (by decide) (fun _ => ?_) (fun _ => ?_)
          · refine hj_aload_n 0 dX3_tellHeavy_79 rfl ?_
            refine hj_bipush (8 : Int32) dX3_tellHeavy_80 (by decide) ?_
            refine hj_callV (ci := 3) (M' := mX3_take) (h' := 2) (As := [.int ((8 : Int32))]) mfX3_take mvX3_take ⟨_, _, rfl⟩ mlX3_75 dX3_tellHeavy_82 (kX3_take G _ _ _) (fun _ hr => cX3_takek hr) ⟨Nat.le_of_ble_eq_true rfl, Nat.le_of_ble_eq_true rfl⟩ ⟨Nat.le_refl _, Nat.le_refl _⟩ rfl (Nat.le_of_ble_eq_true rfl) (fun r8 σ7 _ => ?_)
            refine hj_pop dX3_tellHeavy_85 rfl ?_
            refine hj_aload_n 0 dX3_tellHeavy_86 rfl ?_
            refine hj_iconst (0 : Int32) dX3_tellHeavy_87 (by decide) ?_
            refine hj_callV (ci := 3) (M' := mX3_expression) (h' := 27) (As := [.int ((0 : Int32))]) mfX3_expression mvX3_expression ⟨_, _, rfl⟩ mlX3_108 dX3_tellHeavy_88 (kX3_expression G _ _ _) (fun _ hr => cX3_expressionk hr) ⟨Nat.le_of_ble_eq_true rfl, Nat.le_of_ble_eq_true rfl⟩ ⟨Nat.le_refl _, Nat.le_refl _⟩ rfl (Nat.le_of_ble_eq_true rfl) (fun _ σ9 _ => ?_)
            refine hj_aload_n 0 dX3_tellHeavy_91 rfl ?_
            refine hj_bipush (60 : Int32) dX3_tellHeavy_92 (by decide) ?_
            refine hj_callV (ci := 3) (M' := mX3_take) (h' := 2) (As := [.int ((60 : Int32))]) mfX3_take mvX3_take ⟨_, _, rfl⟩ mlX3_75 dX3_tellHeavy_94 (kX3_take G _ _ _) (fun _ hr => cX3_takek hr) ⟨Nat.le_of_ble_eq_true rfl, Nat.le_of_ble_eq_true rfl⟩ ⟨Nat.le_refl _, Nat.le_refl _⟩ rfl (Nat.le_of_ble_eq_true rfl) (fun r11 σ10 _ => ?_)
            refine hj_pop dX3_tellHeavy_97 rfl ?_
            refine hj_aload_n 0 dX3_tellHeavy_98 rfl ?_
            refine hj_iconst (0 : Int32) dX3_tellHeavy_99 (by decide) ?_
            refine hj_callV (ci := 3) (M' := mX3_expression) (h' := 27) (As := [.int ((0 : Int32))]) mfX3_expression mvX3_expression ⟨_, _, rfl⟩ mlX3_108 dX3_tellHeavy_100 (kX3_expression G _ _ _) (fun _ hr => cX3_expressionk hr) ⟨Nat.le_of_ble_eq_true rfl, Nat.le_of_ble_eq_true rfl⟩ ⟨Nat.le_refl _, Nat.le_refl _⟩ rfl (Nat.le_of_ble_eq_true rfl) (fun _ σ12 _ => ?_)
            refine hj_aload_n 0 dX3_tellHeavy_103 rfl ?_
            refine hj_getR flX3_37 dX3_tellHeavy_104 (fun t13 _ => ?_)
            refine hj_iconst (3 : Int32) dX3_tellHeavy_107 (by decide) ?_
            refine hj_iconst (0 : Int32) dX3_tellHeavy_108 (by decide) ?_
            refine hj_callV (ci := 10) (M' := mX10_emit) (h' := 1) (As := [.int ((3 : Int32)), .int ((0 : Int32))]) mfX10_emit mvX10_emit ⟨_, _, rfl⟩ mlX3_111 dX3_tellHeavy_109 (kX10_emit G _ _ _ _) (fun _ hr => cX10_emitk hr) ⟨Nat.le_of_ble_eq_true rfl, Nat.le_of_ble_eq_true rfl⟩ ⟨Nat.le_refl _, Nat.le_refl _⟩ rfl (Nat.le_of_ble_eq_true rfl) (fun r15 σ14 _ => ?_)
            refine hj_istore (lv' := [(0, .ref x0), (2, .int x2), (3, .int x3), (4, .int x4), (5, .int r15)]) dX3_tellHeavy_112 (by decide) [1, 2, 3, 4, 0] rfl ?_
            refine hj_aload_n 0 dX3_tellHeavy_114 rfl ?_
            refine hj_bipush (9 : Int32) dX3_tellHeavy_115 (by decide) ?_
            refine hj_callV (ci := 3) (M' := mX3_take) (h' := 2) (As := [.int ((9 : Int32))]) mfX3_take mvX3_take ⟨_, _, rfl⟩ mlX3_75 dX3_tellHeavy_117 (kX3_take G _ _ _) (fun _ hr => cX3_takek hr) ⟨Nat.le_of_ble_eq_true rfl, Nat.le_of_ble_eq_true rfl⟩ ⟨Nat.le_refl _, Nat.le_refl _⟩ rfl (Nat.le_of_ble_eq_true rfl) (fun r17 σ16 _ => ?_)
            refine hj_pop dX3_tellHeavy_120 rfl ?_
            refine hj_aload_n 0 dX3_tellHeavy_121 rfl ?_
            refine hj_iconst (0 : Int32) dX3_tellHeavy_122 (by decide) ?_
            refine hj_callV (ci := 3) (M' := mX3_expression) (h' := 27) (As := [.int ((0 : Int32))]) mfX3_expression mvX3_expression ⟨_, _, rfl⟩ mlX3_108 dX3_tellHeavy_123 (kX3_expression G _ _ _) (fun _ hr => cX3_expressionk hr) ⟨Nat.le_of_ble_eq_true rfl, Nat.le_of_ble_eq_true rfl⟩ ⟨Nat.le_refl _, Nat.le_refl _⟩ rfl (Nat.le_of_ble_eq_true rfl) (fun _ σ18 _ => ?_)
            refine hj_aload_n 0 dX3_tellHeavy_126 rfl ?_
            refine hj_getR flX3_37 dX3_tellHeavy_127 (fun t19 _ => ?_)
            refine hj_iconst (4 : Int32) dX3_tellHeavy_130 (by decide) ?_
            refine hj_iconst (0 : Int32) dX3_tellHeavy_131 (by decide) ?_
            refine hj_callV (ci := 10) (M' := mX10_emit) (h' := 1) (As := [.int ((4 : Int32)), .int ((0 : Int32))]) mfX10_emit mvX10_emit ⟨_, _, rfl⟩ mlX3_111 dX3_tellHeavy_132 (kX10_emit G _ _ _ _) (fun _ hr => cX10_emitk hr) ⟨Nat.le_of_ble_eq_true rfl, Nat.le_of_ble_eq_true rfl⟩ ⟨Nat.le_refl _, Nat.le_refl _⟩ rfl (Nat.le_of_ble_eq_true rfl) (fun r21 σ20 _ => ?_)
            refine hj_pop dX3_tellHeavy_135 rfl ?_
            refine hj_aload_n 0 dX3_tellHeavy_136 rfl ?_
            refine hj_bipush (10 : Int32) dX3_tellHeavy_137 (by decide) ?_
            refine hj_callV (ci := 3) (M' := mX3_take) (h' := 2) (As := [.int ((10 : Int32))]) mfX3_take mvX3_take ⟨_, _, rfl⟩ mlX3_75 dX3_tellHeavy_139 (kX3_take G _ _ _) (fun _ hr => cX3_takek hr) ⟨Nat.le_of_ble_eq_true rfl, Nat.le_of_ble_eq_true rfl⟩ ⟨Nat.le_refl _, Nat.le_refl _⟩ rfl (Nat.le_of_ble_eq_true rfl) (fun r23 σ22 _ => ?_)
            refine hj_pop dX3_tellHeavy_142 rfl ?_
            refine hj_aload_n 0 dX3_tellHeavy_143 rfl ?_
            refine hj_getR flX3_37 dX3_tellHeavy_144 (fun t24 _ => ?_)
            refine hj_iload 4 dX3_tellHeavy_147 rfl ?_
            refine hj_callV (ci := 10) (M' := mX10_aim) (h' := 1) (As := [.int r15]) mfX10_aim mvX10_aim ⟨_, _, rfl⟩ mlX3_115 dX3_tellHeavy_149 (kX10_aim G _ _ _) (fun _ hr => cX10_aimk hr) ⟨Nat.le_of_ble_eq_true rfl, Nat.le_of_ble_eq_true rfl⟩ ⟨Nat.le_refl _, Nat.le_refl _⟩ rfl (Nat.le_of_ble_eq_true rfl) (fun _ σ25 _ => ?_)
            refine hj_iinc (lv' := [(0, .ref x0), (2, .int x2), (3, .int x3), (4, .int (x4 + (1 : Int32))), (5, .int r15)]) 3 (1 : Int32) dX3_tellHeavy_152 rfl (by decide) (by decide) [1, 2, 3, 0, 4] rfl ?_
            refine hj_goto 37 dX3_tellHeavy_155 (by decide) ?_
            refine hj_loc (lv' := [(0, .ref x0), (2, .int x2), (3, .int x3), (4, .int (x4 + (1 : Int32)))]) [0, 1, 2, 3] rfl ?_
            exact ih _ _ _ _ _
          · refine hj_loc (lv' := [(0, .ref x0)]) [0] rfl ?_
            exact sX3_tellHeavy_b73 _ _
def fX3_tellHeavy (a0 : Nat) (σ : Sto) : Option (Unit × Sto) := ck σ 3 a0 (cb (fX3_take a0 ((1 : Int32)) σ) fun r38 σ37 => (cb (fX3_take a0 ((16 : Int32)) σ37) fun r40 σ39 => (cb (fX3_take a0 ((61 : Int32)) σ39) fun r42 σ41 => (cb (fX3_knownBook a0 r40 σ41) fun r44 σ43 => ((gR σ43 3 a0 1).bind fun t45 => ((gI σ43 10 t45 5).bind fun t46 => (fX3_tellHeavy_b37 FU a0 r44 t46 ((0 : Int32)) σ43)))))))
set_option maxHeartbeats 2000000 in
theorem kX3_tellHeavy (G : GP) (a0 : Nat) (σ : Sto) : Me G mX3_tellHeavy 28 0 0 jV [.ref a0] σ (fX3_tellHeavy a0 σ) := by
  refine hs_me (lv := [(0, .ref a0)]) (plainFor_of_name (by decide +kernel)) (Nat.le_of_ble_eq_true rfl) rfl ?_
  unfold fX3_tellHeavy
  refine hj_ck ?_
  refine hj_aload_n 0 dX3_tellHeavy_0 rfl ?_
  refine hj_iconst (1 : Int32) dX3_tellHeavy_1 (by decide) ?_
  refine hj_callV (ci := 3) (M' := mX3_take) (h' := 2) (As := [.int ((1 : Int32))]) mfX3_take mvX3_take ⟨_, _, rfl⟩ mlX3_75 dX3_tellHeavy_2 (kX3_take G _ _ _) (fun _ hr => cX3_takek hr) ⟨Nat.le_of_ble_eq_true rfl, Nat.le_of_ble_eq_true rfl⟩ ⟨Nat.le_refl _, Nat.le_refl _⟩ rfl (Nat.le_of_ble_eq_true rfl) (fun r38 σ37 _ => ?_)
  refine hj_pop dX3_tellHeavy_5 rfl ?_
  refine hj_aload_n 0 dX3_tellHeavy_6 rfl ?_
  refine hj_bipush (16 : Int32) dX3_tellHeavy_7 (by decide) ?_
  refine hj_callV (ci := 3) (M' := mX3_take) (h' := 2) (As := [.int ((16 : Int32))]) mfX3_take mvX3_take ⟨_, _, rfl⟩ mlX3_75 dX3_tellHeavy_9 (kX3_take G _ _ _) (fun _ hr => cX3_takek hr) ⟨Nat.le_of_ble_eq_true rfl, Nat.le_of_ble_eq_true rfl⟩ ⟨Nat.le_refl _, Nat.le_refl _⟩ rfl (Nat.le_of_ble_eq_true rfl) (fun r40 σ39 _ => ?_)
  refine hj_istore_n (lv' := [(0, .ref a0), (1, .int r40)]) dX3_tellHeavy_12 (by decide) [1, 0] rfl ?_
  refine hj_aload_n 0 dX3_tellHeavy_13 rfl ?_
  refine hj_bipush (61 : Int32) dX3_tellHeavy_14 (by decide) ?_
  refine hj_callV (ci := 3) (M' := mX3_take) (h' := 2) (As := [.int ((61 : Int32))]) mfX3_take mvX3_take ⟨_, _, rfl⟩ mlX3_75 dX3_tellHeavy_16 (kX3_take G _ _ _) (fun _ hr => cX3_takek hr) ⟨Nat.le_of_ble_eq_true rfl, Nat.le_of_ble_eq_true rfl⟩ ⟨Nat.le_refl _, Nat.le_refl _⟩ rfl (Nat.le_of_ble_eq_true rfl) (fun r42 σ41 _ => ?_)
  refine hj_pop dX3_tellHeavy_19 rfl ?_
  refine hj_aload_n 0 dX3_tellHeavy_20 rfl ?_
  refine hj_iload_n 1 dX3_tellHeavy_21 rfl ?_
  refine hj_callV (ci := 3) (M' := mX3_knownBook) (h' := 2) (As := [.int r40]) mfX3_knownBook mvX3_knownBook ⟨_, _, rfl⟩ mlX3_102 dX3_tellHeavy_22 (kX3_knownBook G _ _ _) (fun _ hr => cX3_knownBookk hr) ⟨Nat.le_of_ble_eq_true rfl, Nat.le_of_ble_eq_true rfl⟩ ⟨Nat.le_refl _, Nat.le_refl _⟩ rfl (Nat.le_of_ble_eq_true rfl) (fun r44 σ43 _ => ?_)
  refine hj_istore_n (lv' := [(0, .ref a0), (1, .int r40), (2, .int r44)]) dX3_tellHeavy_25 (by decide) [1, 2, 0] rfl ?_
  refine hj_aload_n 0 dX3_tellHeavy_26 rfl ?_
  refine hj_getR flX3_37 dX3_tellHeavy_27 (fun t45 _ => ?_)
  refine hj_getI flX3_105 dX3_tellHeavy_30 (fun t46 _ => ?_)
  refine hj_istore_n (lv' := [(0, .ref a0), (1, .int r40), (2, .int r44), (3, .int t46)]) dX3_tellHeavy_33 (by decide) [1, 2, 3, 0] rfl ?_
  refine hj_iconst (0 : Int32) dX3_tellHeavy_34 (by decide) ?_
  refine hj_istore (lv' := [(0, .ref a0), (1, .int r40), (2, .int r44), (3, .int t46), (4, .int (0 : Int32))]) dX3_tellHeavy_35 (by decide) [1, 2, 3, 4, 0] rfl ?_
  refine hj_loc (lv' := [(0, .ref a0), (2, .int r44), (3, .int t46), (4, .int (0 : Int32))]) [0, 2, 3, 4] rfl ?_
  exact sX3_tellHeavy_b37 _ _ _ _ _ _
theorem cX3_tellHeavyk {a0 : Nat} {σ : Sto} {r : Unit × Sto} (h : fX3_tellHeavy a0 σ = some r) : ∃ fs, hs_o σ 3 a0 = some fs := (ck_of h).1
def fX3_tellPiled_b127 (x0 : Nat) (x2 : Int32) (x3 : Int32) (x4 : Int32) (x5 : Int32) (σ : Sto) : Option (Unit × Sto) := (cb (fX3_checkInt x0 x3 ((0 : Int32)) ((999 : Int32)) σ) fun _ σ17 => ((gI σ17 3 x0 5).bind fun t18 => (if t18 = 0 then ((gR σ17 3 x0 1).bind fun t19 => ((gR σ17 10 t19 14).bind fun t20 => (cb (fX3_intAt x0 x3 σ17) fun r22 σ21 => (cb (fX5_put t20 x5 ((x2 * r22)) x4 σ21) fun _ σ23 => (some ((), σ23)))))) else (some ((), σ17)))))
set_option maxHeartbeats 2000000 in
theorem sX3_tellPiled_b127 {G : GP} {n0 : Nat} : ∀ (x0 : Nat) (x2 : Int32) (x3 : Int32) (x4 : Int32) (x5 : Int32) (σ : Sto), Sim G mX3_tellPiled 3 0 0 n0 jV 0 0 127 [(0, .ref x0), (2, .int x2), (3, .int x3), (4, .int x4), (5, .int x5)] [] σ (fX3_tellPiled_b127 x0 x2 x3 x4 x5 σ) := by
  intro x0 x2 x3 x4 x5 σ
  unfold fX3_tellPiled_b127
  refine hj_aload_n 0 dX3_tellPiled_127 rfl ?_
  refine hj_iload_n 2 dX3_tellPiled_128 rfl ?_
  refine hj_iconst (0 : Int32) dX3_tellPiled_129 (by decide) ?_
  refine hj_sipush (999 : Int32) dX3_tellPiled_130 (by decide) ?_
  refine hj_callV (ci := 3) (M' := mX3_checkInt) (h' := 2) (As := [.int x3, .int ((0 : Int32)), .int ((999 : Int32))]) mfX3_checkInt mvX3_checkInt ⟨_, _, rfl⟩ mlX3_91 dX3_tellPiled_133 (kX3_checkInt G _ _ _ _ _) (fun _ hr => cX3_checkIntk hr) ⟨Nat.le_of_ble_eq_true rfl, Nat.le_of_ble_eq_true rfl⟩ ⟨Nat.le_refl _, Nat.le_refl _⟩ rfl (Nat.le_of_ble_eq_true rfl) (fun _ σ17 _ => ?_)
  refine hj_aload_n 0 dX3_tellPiled_136 rfl ?_
  refine hj_getI flX3_21 dX3_tellPiled_137 (fun t18 _ => ?_)
  refine hj_if_ne 164 dX3_tellPiled_140 (by decide) (fun _ => ?_) (fun _ => ?_)
  · exact hj_vret dX3_tellPiled_164 rfl rfl (Nat.le_refl _)
  · refine hj_aload_n 0 dX3_tellPiled_143 rfl ?_
    refine hj_getR flX3_37 dX3_tellPiled_144 (fun t19 _ => ?_)
    refine hj_getR flX3_124 dX3_tellPiled_147 (fun t20 _ => ?_)
    refine hj_iload 4 dX3_tellPiled_150 rfl ?_
    refine hj_iload_n 1 dX3_tellPiled_152 rfl ?_
    refine hj_aload_n 0 dX3_tellPiled_153 rfl ?_
    refine hj_iload_n 2 dX3_tellPiled_154 rfl ?_
    refine hj_callV (ci := 3) (M' := mX3_intAt) (h' := 1) (As := [.int x3]) mfX3_intAt mvX3_intAt ⟨_, _, rfl⟩ mlX3_95 dX3_tellPiled_155 (kX3_intAt G _ _ _) (fun _ hr => cX3_intAtk hr) ⟨Nat.le_of_ble_eq_true rfl, Nat.le_of_ble_eq_true rfl⟩ ⟨Nat.le_refl _, Nat.le_refl _⟩ rfl (Nat.le_of_ble_eq_true rfl) (fun r22 σ21 _ => ?_)
    refine hj_imul dX3_tellPiled_158 ?_
    refine hj_iload 3 dX3_tellPiled_159 rfl ?_
    refine hj_callV (ci := 5) (M' := mX5_put) (h' := 1) (As := [.int x5, .int ((x2 * r22)), .int x4]) mfX5_put mvX5_put ⟨_, _, rfl⟩ mlX3_139 dX3_tellPiled_161 (kX5_put G _ _ _ _ _) (fun _ hr => cX5_putk hr) ⟨Nat.le_of_ble_eq_true rfl, Nat.le_of_ble_eq_true rfl⟩ ⟨Nat.le_refl _, Nat.le_refl _⟩ rfl (Nat.le_of_ble_eq_true rfl) (fun _ σ23 _ => ?_)
    exact hj_vret dX3_tellPiled_164 rfl rfl (Nat.le_refl _)
def fX3_tellPiled_b84 (x0 : Nat) (x1 : Int32) (x2 : Int32) (x3 : Int32) (x4 : Int32) (σ : Sto) : Option (Unit × Sto) := ((gI σ 3 x0 3).bind fun t7 => (if t7 = 0 then (cb (fX3_knownBook x0 x1 σ) fun r9 σ8 => (if r9 = (-1 : Int32) then (fX3_tellPiled_b127 x0 x2 x3 x4 r9 σ8) else ((gR σ8 3 x0 1).bind fun t10 => ((gR σ8 10 t10 14).bind fun t11 => (cb (fX5_levelOf t11 r9 σ8) fun r13 σ12 => (if r13 = (-1 : Int32) then (fX3_tellPiled_b127 x0 x2 x3 x4 r9 σ12) else (cb (fX3_slipAt x0 ((3 : Int32)) x1 σ12) fun _ σ14 => (fX3_tellPiled_b127 x0 x2 x3 x4 r9 σ14)))))))) else (some ((), σ))))
set_option maxHeartbeats 2000000 in
theorem sX3_tellPiled_b84 {G : GP} {n0 : Nat} : ∀ (x0 : Nat) (x1 : Int32) (x2 : Int32) (x3 : Int32) (x4 : Int32) (σ : Sto), Sim G mX3_tellPiled 3 0 0 n0 jV 0 0 84 [(0, .ref x0), (1, .int x1), (2, .int x2), (3, .int x3), (4, .int x4)] [] σ (fX3_tellPiled_b84 x0 x1 x2 x3 x4 σ) := by
  intro x0 x1 x2 x3 x4 σ
  unfold fX3_tellPiled_b84
  refine hj_aload_n 0 dX3_tellPiled_84 rfl ?_
  refine hj_getI flX3_15 dX3_tellPiled_85 (fun t7 _ => ?_)
  refine hj_if_eq 92 dX3_tellPiled_88 (by decide) (fun _ => ?_) (fun _ => ?_)
  · refine hj_aload_n 0 dX3_tellPiled_92 rfl ?_
    refine hj_iload_n 1 dX3_tellPiled_93 rfl ?_
    refine hj_callV (ci := 3) (M' := mX3_knownBook) (h' := 2) (As := [.int x1]) mfX3_knownBook mvX3_knownBook ⟨_, _, rfl⟩ mlX3_102 dX3_tellPiled_94 (kX3_knownBook G _ _ _) (fun _ hr => cX3_knownBookk hr) ⟨Nat.le_of_ble_eq_true rfl, Nat.le_of_ble_eq_true rfl⟩ ⟨Nat.le_refl _, Nat.le_refl _⟩ rfl (Nat.le_of_ble_eq_true rfl) (fun r9 σ8 _ => ?_)
    refine hj_istore (lv' := [(0, .ref x0), (1, .int x1), (2, .int x2), (3, .int x3), (4, .int x4), (5, .int r9)]) dX3_tellPiled_97 (by decide) [1, 2, 3, 4, 5, 0] rfl ?_
    refine hj_iload 5 dX3_tellPiled_99 rfl ?_
    refine hj_iconst (-1 : Int32) dX3_tellPiled_101 (by decide) ?_
    refine hj_icmp_eq 127 dX3_tellPiled_102 (by decide) (fun _ => ?_) (fun _ => ?_)
    · refine hj_loc (lv' := [(0, .ref x0), (2, .int x2), (3, .int x3), (4, .int x4), (5, .int r9)]) [0, 2, 3, 4, 5] rfl ?_
      exact sX3_tellPiled_b127 _ _ _ _ _ _
    · refine hj_aload_n 0 dX3_tellPiled_105 rfl ?_
      refine hj_getR flX3_37 dX3_tellPiled_106 (fun t10 _ => ?_)
      refine hj_getR flX3_124 dX3_tellPiled_109 (fun t11 _ => ?_)
      refine hj_iload 5 dX3_tellPiled_112 rfl ?_
      refine hj_callV (ci := 5) (M' := mX5_levelOf) (h' := 1) (As := [.int r9]) mfX5_levelOf mvX5_levelOf ⟨_, _, rfl⟩ mlX3_136 dX3_tellPiled_114 (kX5_levelOf G _ _ _) (fun _ hr => cX5_levelOfk hr) ⟨Nat.le_of_ble_eq_true rfl, Nat.le_of_ble_eq_true rfl⟩ ⟨Nat.le_refl _, Nat.le_refl _⟩ rfl (Nat.le_of_ble_eq_true rfl) (fun r13 σ12 _ => ?_)
      refine hj_iconst (-1 : Int32) dX3_tellPiled_117 (by decide) ?_
      refine hj_icmp_eq 127 dX3_tellPiled_118 (by decide) (fun _ => ?_) (fun _ => ?_)
      · refine hj_loc (lv' := [(0, .ref x0), (2, .int x2), (3, .int x3), (4, .int x4), (5, .int r9)]) [0, 2, 3, 4, 5] rfl ?_
        exact sX3_tellPiled_b127 _ _ _ _ _ _
      · refine hj_aload_n 0 dX3_tellPiled_121 rfl ?_
        refine hj_iconst (3 : Int32) dX3_tellPiled_122 (by decide) ?_
        refine hj_iload_n 1 dX3_tellPiled_123 rfl ?_
        refine hj_callV (ci := 3) (M' := mX3_slipAt) (h' := 1) (As := [.int ((3 : Int32)), .int x1]) mfX3_slipAt mvX3_slipAt ⟨_, _, rfl⟩ mlX3_87 dX3_tellPiled_124 (kX3_slipAt G _ _ _ _) (fun _ hr => cX3_slipAtk hr) ⟨Nat.le_of_ble_eq_true rfl, Nat.le_of_ble_eq_true rfl⟩ ⟨Nat.le_refl _, Nat.le_refl _⟩ rfl (Nat.le_of_ble_eq_true rfl) (fun _ σ14 _ => ?_)
        refine hj_loc (lv' := [(0, .ref x0), (2, .int x2), (3, .int x3), (4, .int x4), (5, .int r9)]) [0, 2, 3, 4, 5] rfl ?_
        exact sX3_tellPiled_b127 _ _ _ _ _ _
  · exact hj_vret dX3_tellPiled_91 rfl rfl (Nat.le_refl _)
def fX3_tellPiled_b70 (x0 : Nat) (x1 : Int32) (x2 : Int32) (x3 : Int32) (y0 : Int32) (σ : Sto) : Option (Unit × Sto) := (if y0 = 0 then (fX3_tellPiled_b84 x0 x1 x2 x3 y0 σ) else (cb (fX3_take x0 ((6 : Int32)) σ) fun r16 σ15 => (fX3_tellPiled_b84 x0 x1 x2 x3 y0 σ15)))
set_option maxHeartbeats 2000000 in
theorem sX3_tellPiled_b70 {G : GP} {n0 : Nat} : ∀ (x0 : Nat) (x1 : Int32) (x2 : Int32) (x3 : Int32) (y0 : Int32) (σ : Sto), Sim G mX3_tellPiled 3 0 0 n0 jV 0 0 70 [(0, .ref x0), (1, .int x1), (2, .int x2), (3, .int x3)] [.int y0] σ (fX3_tellPiled_b70 x0 x1 x2 x3 y0 σ) := by
  intro x0 x1 x2 x3 y0 σ
  unfold fX3_tellPiled_b70
  refine hj_istore (lv' := [(0, .ref x0), (1, .int x1), (2, .int x2), (3, .int x3), (4, .int y0)]) dX3_tellPiled_70 (by decide) [1, 2, 3, 4, 0] rfl ?_
  refine hj_iload 4 dX3_tellPiled_72 rfl ?_
  refine hj_if_eq 84 dX3_tellPiled_74 (by decide) (fun _ => ?_) (fun _ => ?_)
  · refine hj_loc (lv' := [(0, .ref x0), (1, .int x1), (2, .int x2), (3, .int x3), (4, .int y0)]) [0, 1, 2, 3, 4] rfl ?_
    exact sX3_tellPiled_b84 _ _ _ _ _ _
  · refine hj_aload_n 0 dX3_tellPiled_77 rfl ?_
    refine hj_bipush (6 : Int32) dX3_tellPiled_78 (by decide) ?_
    refine hj_callV (ci := 3) (M' := mX3_take) (h' := 2) (As := [.int ((6 : Int32))]) mfX3_take mvX3_take ⟨_, _, rfl⟩ mlX3_75 dX3_tellPiled_80 (kX3_take G _ _ _) (fun _ hr => cX3_takek hr) ⟨Nat.le_of_ble_eq_true rfl, Nat.le_of_ble_eq_true rfl⟩ ⟨Nat.le_refl _, Nat.le_refl _⟩ rfl (Nat.le_of_ble_eq_true rfl) (fun r16 σ15 _ => ?_)
    refine hj_pop dX3_tellPiled_83 rfl ?_
    refine hj_loc (lv' := [(0, .ref x0), (1, .int x1), (2, .int x2), (3, .int x3), (4, .int y0)]) [0, 1, 2, 3, 4] rfl ?_
    exact sX3_tellPiled_b84 _ _ _ _ _ _
def fX3_tellPiled_b41 (x0 : Nat) (x1 : Int32) (x2 : Int32) (σ : Sto) : Option (Unit × Sto) := (cb (fX3_take x0 ((17 : Int32)) σ) fun r2 σ1 => ((gR σ1 3 x0 0).bind fun t3 => ((gR σ1 9 t3 1).bind fun t4 => ((gI σ1 3 x0 2).bind fun t5 => ((aI σ1 2 t4 t5).bind fun t6 => (if t6 = (6 : Int32) then (fX3_tellPiled_b70 x0 x1 x2 r2 ((1 : Int32)) σ1) else (fX3_tellPiled_b70 x0 x1 x2 r2 ((0 : Int32)) σ1)))))))
set_option maxHeartbeats 2000000 in
theorem sX3_tellPiled_b41 {G : GP} {n0 : Nat} : ∀ (x0 : Nat) (x1 : Int32) (x2 : Int32) (σ : Sto), Sim G mX3_tellPiled 3 0 0 n0 jV 0 0 41 [(0, .ref x0), (1, .int x1), (2, .int x2)] [] σ (fX3_tellPiled_b41 x0 x1 x2 σ) := by
  intro x0 x1 x2 σ
  unfold fX3_tellPiled_b41
  refine hj_aload_n 0 dX3_tellPiled_41 rfl ?_
  refine hj_bipush (17 : Int32) dX3_tellPiled_42 (by decide) ?_
  refine hj_callV (ci := 3) (M' := mX3_take) (h' := 2) (As := [.int ((17 : Int32))]) mfX3_take mvX3_take ⟨_, _, rfl⟩ mlX3_75 dX3_tellPiled_44 (kX3_take G _ _ _) (fun _ hr => cX3_takek hr) ⟨Nat.le_of_ble_eq_true rfl, Nat.le_of_ble_eq_true rfl⟩ ⟨Nat.le_refl _, Nat.le_refl _⟩ rfl (Nat.le_of_ble_eq_true rfl) (fun r2 σ1 _ => ?_)
  refine hj_istore_n (lv' := [(0, .ref x0), (1, .int x1), (2, .int x2), (3, .int r2)]) dX3_tellPiled_47 (by decide) [1, 2, 3, 0] rfl ?_
  refine hj_aload_n 0 dX3_tellPiled_48 rfl ?_
  refine hj_getR flX3_33 dX3_tellPiled_49 (fun t3 _ => ?_)
  refine hj_getR flX3_45 dX3_tellPiled_52 (fun t4 _ => ?_)
  refine hj_aload_n 0 dX3_tellPiled_55 rfl ?_
  refine hj_getI flX3_9 dX3_tellPiled_56 (fun t5 _ => ?_)
  refine hj_iald dX3_tellPiled_59 (fun t6 _ => ?_)
  refine hj_bipush (6 : Int32) dX3_tellPiled_60 (by decide) ?_
  refine hj_icmp_ne 69 dX3_tellPiled_62 (by decide) (fun _ => ?_) (fun _ => ?_)
  · refine hj_iconst (0 : Int32) dX3_tellPiled_69 (by decide) ?_
    refine hj_loc (lv' := [(0, .ref x0), (1, .int x1), (2, .int x2), (3, .int r2)]) [0, 1, 2, 3] rfl ?_
    exact sX3_tellPiled_b70 _ _ _ _ _ _
  · refine hj_iconst (1 : Int32) dX3_tellPiled_65 (by decide) ?_
    refine hj_goto 70 dX3_tellPiled_66 (by decide) ?_
    refine hj_loc (lv' := [(0, .ref x0), (1, .int x1), (2, .int x2), (3, .int r2)]) [0, 1, 2, 3] rfl ?_
    exact sX3_tellPiled_b70 _ _ _ _ _ _
def fX3_tellPiled (a0 : Nat) (σ : Sto) : Option (Unit × Sto) := ck σ 3 a0 (cb (fX3_take a0 ((16 : Int32)) σ) fun r25 σ24 => (cb (fX3_take a0 ((5 : Int32)) σ24) fun r27 σ26 => ((gR σ26 3 a0 0).bind fun t28 => ((gR σ26 9 t28 1).bind fun t29 => ((gI σ26 3 a0 2).bind fun t30 => ((aI σ26 2 t29 t30).bind fun t31 => (if t31 = (45 : Int32) then (cb (fX3_take a0 ((45 : Int32)) σ26) fun r33 σ32 => (fX3_tellPiled_b41 a0 r25 ((-1 : Int32)) σ32)) else (fX3_tellPiled_b41 a0 r25 ((1 : Int32)) σ26))))))))
set_option maxHeartbeats 2000000 in
theorem kX3_tellPiled (G : GP) (a0 : Nat) (σ : Sto) : Me G mX3_tellPiled 3 0 0 jV [.ref a0] σ (fX3_tellPiled a0 σ) := by
  refine hs_me (lv := [(0, .ref a0)]) (plainFor_of_name (by decide +kernel)) (Nat.le_of_ble_eq_true rfl) rfl ?_
  unfold fX3_tellPiled
  refine hj_ck ?_
  refine hj_aload_n 0 dX3_tellPiled_0 rfl ?_
  refine hj_bipush (16 : Int32) dX3_tellPiled_1 (by decide) ?_
  refine hj_callV (ci := 3) (M' := mX3_take) (h' := 2) (As := [.int ((16 : Int32))]) mfX3_take mvX3_take ⟨_, _, rfl⟩ mlX3_75 dX3_tellPiled_3 (kX3_take G _ _ _) (fun _ hr => cX3_takek hr) ⟨Nat.le_of_ble_eq_true rfl, Nat.le_of_ble_eq_true rfl⟩ ⟨Nat.le_refl _, Nat.le_refl _⟩ rfl (Nat.le_of_ble_eq_true rfl) (fun r25 σ24 _ => ?_)
  refine hj_istore_n (lv' := [(0, .ref a0), (1, .int r25)]) dX3_tellPiled_6 (by decide) [1, 0] rfl ?_
  refine hj_aload_n 0 dX3_tellPiled_7 rfl ?_
  refine hj_iconst (5 : Int32) dX3_tellPiled_8 (by decide) ?_
  refine hj_callV (ci := 3) (M' := mX3_take) (h' := 2) (As := [.int ((5 : Int32))]) mfX3_take mvX3_take ⟨_, _, rfl⟩ mlX3_75 dX3_tellPiled_9 (kX3_take G _ _ _) (fun _ hr => cX3_takek hr) ⟨Nat.le_of_ble_eq_true rfl, Nat.le_of_ble_eq_true rfl⟩ ⟨Nat.le_refl _, Nat.le_refl _⟩ rfl (Nat.le_of_ble_eq_true rfl) (fun r27 σ26 _ => ?_)
  refine hj_pop dX3_tellPiled_12 rfl ?_
  refine hj_iconst (1 : Int32) dX3_tellPiled_13 (by decide) ?_
  refine hj_istore_n (lv' := [(0, .ref a0), (1, .int r25), (2, .int (1 : Int32))]) dX3_tellPiled_14 (by decide) [1, 2, 0] rfl ?_
  refine hj_aload_n 0 dX3_tellPiled_15 rfl ?_
  refine hj_getR flX3_33 dX3_tellPiled_16 (fun t28 _ => ?_)
  refine hj_getR flX3_45 dX3_tellPiled_19 (fun t29 _ => ?_)
  refine hj_aload_n 0 dX3_tellPiled_22 rfl ?_
  refine hj_getI flX3_9 dX3_tellPiled_23 (fun t30 _ => ?_)
  refine hj_iald dX3_tellPiled_26 (fun t31 _ => ?_)
  refine hj_bipush (45 : Int32) dX3_tellPiled_27 (by decide) ?_
  refine hj_icmp_ne 41 dX3_tellPiled_29 (by decide) (fun _ => ?_) (fun _ => ?_)
  · refine hj_loc (lv' := [(0, .ref a0), (1, .int r25), (2, .int (1 : Int32))]) [0, 1, 2] rfl ?_
    exact sX3_tellPiled_b41 _ _ _ _
  · refine hj_aload_n 0 dX3_tellPiled_32 rfl ?_
    refine hj_bipush (45 : Int32) dX3_tellPiled_33 (by decide) ?_
    refine hj_callV (ci := 3) (M' := mX3_take) (h' := 2) (As := [.int ((45 : Int32))]) mfX3_take mvX3_take ⟨_, _, rfl⟩ mlX3_75 dX3_tellPiled_35 (kX3_take G _ _ _) (fun _ hr => cX3_takek hr) ⟨Nat.le_of_ble_eq_true rfl, Nat.le_of_ble_eq_true rfl⟩ ⟨Nat.le_refl _, Nat.le_refl _⟩ rfl (Nat.le_of_ble_eq_true rfl) (fun r33 σ32 _ => ?_)
    refine hj_pop dX3_tellPiled_38 rfl ?_
    refine hj_iconst (-1 : Int32) dX3_tellPiled_39 (by decide) ?_
    refine hj_istore_n (lv' := [(0, .ref a0), (1, .int r25), (2, .int (-1 : Int32))]) dX3_tellPiled_40 (by decide) [1, 2, 0] rfl ?_
    refine hj_loc (lv' := [(0, .ref a0), (1, .int r25), (2, .int (-1 : Int32))]) [0, 1, 2] rfl ?_
    exact sX3_tellPiled_b41 _ _ _ _
theorem cX3_tellPiledk {a0 : Nat} {σ : Sto} {r : Unit × Sto} (h : fX3_tellPiled a0 σ = some r) : ∃ fs, hs_o σ 3 a0 = some fs := (ck_of h).1
def fX3_tellPile_b60 (x0 : Nat) (σ : Sto) : Option (Unit × Sto) := (cb (fX3_take x0 ((59 : Int32)) σ) fun r8 σ7 => (some ((), σ7)))
set_option maxHeartbeats 2000000 in
theorem sX3_tellPile_b60 {G : GP} {n0 : Nat} : ∀ (x0 : Nat) (σ : Sto), Sim G mX3_tellPile 4 0 0 n0 jV 0 0 60 [(0, .ref x0)] [] σ (fX3_tellPile_b60 x0 σ) := by
  intro x0 σ
  unfold fX3_tellPile_b60
  refine hj_aload_n 0 dX3_tellPile_60 rfl ?_
  refine hj_bipush (59 : Int32) dX3_tellPile_61 (by decide) ?_
  refine hj_callV (ci := 3) (M' := mX3_take) (h' := 2) (As := [.int ((59 : Int32))]) mfX3_take mvX3_take ⟨_, _, rfl⟩ mlX3_75 dX3_tellPile_63 (kX3_take G _ _ _) (fun _ hr => cX3_takek hr) ⟨Nat.le_of_ble_eq_true rfl, Nat.le_of_ble_eq_true rfl⟩ ⟨Nat.le_refl _, Nat.le_refl _⟩ rfl (Nat.le_of_ble_eq_true rfl) (fun r8 σ7 _ => ?_)
  refine hj_pop dX3_tellPile_66 rfl ?_
  exact hj_vret dX3_tellPile_67 rfl rfl (Nat.le_refl _)
def fX3_tellPile_b19 : Nat → Nat → Int32 → Sto → Option (Unit × Sto)
  | 0, _, _, _ => none
  | n + 1, x0, x1, σ => (if (400 : Int32) < x1 then (fX3_tellPile_b60 x0 σ) else ((gI σ 3 x0 3).bind fun t1 => (if t1 = 0 then ((gR σ 3 x0 0).bind fun t2 => ((gR σ 9 t2 1).bind fun t3 => ((gI σ 3 x0 2).bind fun t4 => ((aI σ 2 t3 t4).bind fun t5 => (if t5 = (16 : Int32) then (cb (fX3_tellPiled x0 σ) fun _ σ6 => (fX3_tellPile_b19 n x0 (x1 + (1 : Int32)) σ6)) else (fX3_tellPile_b60 x0 σ)))))) else (fX3_tellPile_b60 x0 σ))))
set_option maxHeartbeats 2000000 in
theorem sX3_tellPile_b19 {G : GP} {n0 : Nat} : ∀ (n : Nat) (x0 : Nat) (x1 : Int32) (σ : Sto), Sim G mX3_tellPile 4 0 0 n0 jV 0 0 19 [(0, .ref x0), (1, .int x1)] [] σ (fX3_tellPile_b19 n x0 x1 σ) := by
  intro n
  induction n with
  | zero => intros; rw [fX3_tellPile_b19]; exact hj_none
  | succ n ih =>
    intro x0 x1 σ
    rw [fX3_tellPile_b19]
    refine hj_iload_n 1 dX3_tellPile_19 rfl ?_
    refine hj_sipush (400 : Int32) dX3_tellPile_20 (by decide) ?_
    refine hj_icmp_gt 60 dX3_tellPile_23 (by decide) (fun _ => ?_) (fun _ => ?_)
    · refine hj_loc (lv' := [(0, .ref x0)]) [0] rfl ?_
      exact sX3_tellPile_b60 _ _
    · refine hj_aload_n 0 dX3_tellPile_26 rfl ?_
      refine hj_getI flX3_15 dX3_tellPile_27 (fun t1 _ => ?_)
      refine hj_if_ne 60 dX3_tellPile_30 (by decide) (fun _ => ?_) (fun _ => ?_)
      · refine hj_loc (lv' := [(0, .ref x0)]) [0] rfl ?_
        exact sX3_tellPile_b60 _ _
      · refine hj_aload_n 0 dX3_tellPile_33 rfl ?_
        refine hj_getR flX3_33 dX3_tellPile_34 (fun t2 _ => ?_)
        refine hj_getR flX3_45 dX3_tellPile_37 (fun t3 _ => ?_)
        refine hj_aload_n 0 dX3_tellPile_40 rfl ?_
        refine hj_getI flX3_9 dX3_tellPile_41 (fun t4 _ => ?_)
        refine hj_iald dX3_tellPile_44 (fun t5 _ => ?_)
        refine hj_bipush (16 : Int32) dX3_tellPile_45 (by decide) ?_
        refine hj_icmp_ne 60 dX3_tellPile_47 (by decide) (fun _ => ?_) (fun _ => ?_)
        · refine hj_loc (lv' := [(0, .ref x0)]) [0] rfl ?_
          exact sX3_tellPile_b60 _ _
        · refine hj_aload_n 0 dX3_tellPile_50 rfl ?_
          refine hj_callV (ci := 3) (M' := mX3_tellPiled) (h' := 3) (As := []) mfX3_tellPiled mvX3_tellPiled ⟨_, _, rfl⟩ mlX3_133 dX3_tellPile_51 (kX3_tellPiled G _ _) (fun _ hr => cX3_tellPiledk hr) ⟨Nat.le_of_ble_eq_true rfl, Nat.le_of_ble_eq_true rfl⟩ ⟨Nat.le_refl _, Nat.le_refl _⟩ rfl (Nat.le_of_ble_eq_true rfl) (fun _ σ6 _ => ?_)
          refine hj_iinc (lv' := [(0, .ref x0), (1, .int (x1 + (1 : Int32)))]) 1 (1 : Int32) dX3_tellPile_54 rfl (by decide) (by decide) [1, 0] rfl ?_
          refine hj_goto 19 dX3_tellPile_57 (by decide) ?_
          refine hj_loc (lv' := [(0, .ref x0), (1, .int (x1 + (1 : Int32)))]) [0, 1] rfl ?_
          exact ih _ _ _
def fX3_tellPile (a0 : Nat) (σ : Sto) : Option (Unit × Sto) := ck σ 3 a0 (cb (fX3_take a0 ((3 : Int32)) σ) fun r10 σ9 => ((gR σ9 3 a0 1).bind fun t11 => ((gR σ9 10 t11 14).bind fun t12 => ((pV σ9 5 t12 0 (.int ((0 : Int32)))).bind fun σ13 => (fX3_tellPile_b19 FU a0 ((0 : Int32)) σ13)))))
set_option maxHeartbeats 2000000 in
theorem kX3_tellPile (G : GP) (a0 : Nat) (σ : Sto) : Me G mX3_tellPile 4 0 0 jV [.ref a0] σ (fX3_tellPile a0 σ) := by
  refine hs_me (lv := [(0, .ref a0)]) (plainFor_of_name (by decide +kernel)) (Nat.le_of_ble_eq_true rfl) rfl ?_
  unfold fX3_tellPile
  refine hj_ck ?_
  refine hj_aload_n 0 dX3_tellPile_0 rfl ?_
  refine hj_iconst (3 : Int32) dX3_tellPile_1 (by decide) ?_
  refine hj_callV (ci := 3) (M' := mX3_take) (h' := 2) (As := [.int ((3 : Int32))]) mfX3_take mvX3_take ⟨_, _, rfl⟩ mlX3_75 dX3_tellPile_2 (kX3_take G _ _ _) (fun _ hr => cX3_takek hr) ⟨Nat.le_of_ble_eq_true rfl, Nat.le_of_ble_eq_true rfl⟩ ⟨Nat.le_refl _, Nat.le_refl _⟩ rfl (Nat.le_of_ble_eq_true rfl) (fun r10 σ9 _ => ?_)
  refine hj_pop dX3_tellPile_5 rfl ?_
  refine hj_aload_n 0 dX3_tellPile_6 rfl ?_
  refine hj_getR flX3_37 dX3_tellPile_7 (fun t11 _ => ?_)
  refine hj_getR flX3_124 dX3_tellPile_10 (fun t12 _ => ?_)
  refine hj_iconst (0 : Int32) dX3_tellPile_13 (by decide) ?_
  refine hj_put (fpX3_128 _) (fun _ => rfl) (fun _ => rfl) dX3_tellPile_14 (fun σ13 _ => ?_)
  refine hj_iconst (0 : Int32) dX3_tellPile_17 (by decide) ?_
  refine hj_istore_n (lv' := [(0, .ref a0), (1, .int (0 : Int32))]) dX3_tellPile_18 (by decide) [1, 0] rfl ?_
  refine hj_loc (lv' := [(0, .ref a0), (1, .int (0 : Int32))]) [0, 1] rfl ?_
  exact sX3_tellPile_b19 _ _ _ _
theorem cX3_tellPilek {a0 : Nat} {σ : Sto} {r : Unit × Sto} (h : fX3_tellPile a0 σ = some r) : ∃ fs, hs_o σ 3 a0 = some fs := (ck_of h).1
def fX3_tellTable (a0 : Nat) (σ : Sto) : Option (Unit × Sto) := ck σ 3 a0 (cb (fX3_take a0 ((2 : Int32)) σ) fun r2 σ1 => (cb (fX3_take a0 ((17 : Int32)) σ1) fun r4 σ3 => (cb (fX3_take a0 ((59 : Int32)) σ3) fun r6 σ5 => ((gI σ5 3 a0 3).bind fun t7 => (if t7 = 0 then (cb (fX3_checkInt a0 r4 ((1 : Int32)) ((999 : Int32)) σ5) fun _ σ8 => ((gR σ8 3 a0 1).bind fun t9 => (cb (fX3_intAt a0 r4 σ8) fun r11 σ10 => ((pV σ10 10 t9 9 (.int r11)).bind fun σ12 => (some ((), σ12)))))) else (some ((), σ5)))))))
set_option maxHeartbeats 2000000 in
theorem kX3_tellTable (G : GP) (a0 : Nat) (σ : Sto) : Me G mX3_tellTable 3 0 0 jV [.ref a0] σ (fX3_tellTable a0 σ) := by
  refine hs_me (lv := [(0, .ref a0)]) (plainFor_of_name (by decide +kernel)) (Nat.le_of_ble_eq_true rfl) rfl ?_
  unfold fX3_tellTable
  refine hj_ck ?_
  refine hj_aload_n 0 dX3_tellTable_0 rfl ?_
  refine hj_iconst (2 : Int32) dX3_tellTable_1 (by decide) ?_
  refine hj_callV (ci := 3) (M' := mX3_take) (h' := 2) (As := [.int ((2 : Int32))]) mfX3_take mvX3_take ⟨_, _, rfl⟩ mlX3_75 dX3_tellTable_2 (kX3_take G _ _ _) (fun _ hr => cX3_takek hr) ⟨Nat.le_of_ble_eq_true rfl, Nat.le_of_ble_eq_true rfl⟩ ⟨Nat.le_refl _, Nat.le_refl _⟩ rfl (Nat.le_of_ble_eq_true rfl) (fun r2 σ1 _ => ?_)
  refine hj_pop dX3_tellTable_5 rfl ?_
  refine hj_aload_n 0 dX3_tellTable_6 rfl ?_
  refine hj_bipush (17 : Int32) dX3_tellTable_7 (by decide) ?_
  refine hj_callV (ci := 3) (M' := mX3_take) (h' := 2) (As := [.int ((17 : Int32))]) mfX3_take mvX3_take ⟨_, _, rfl⟩ mlX3_75 dX3_tellTable_9 (kX3_take G _ _ _) (fun _ hr => cX3_takek hr) ⟨Nat.le_of_ble_eq_true rfl, Nat.le_of_ble_eq_true rfl⟩ ⟨Nat.le_refl _, Nat.le_refl _⟩ rfl (Nat.le_of_ble_eq_true rfl) (fun r4 σ3 _ => ?_)
  refine hj_istore_n (lv' := [(0, .ref a0), (1, .int r4)]) dX3_tellTable_12 (by decide) [1, 0] rfl ?_
  refine hj_aload_n 0 dX3_tellTable_13 rfl ?_
  refine hj_bipush (59 : Int32) dX3_tellTable_14 (by decide) ?_
  refine hj_callV (ci := 3) (M' := mX3_take) (h' := 2) (As := [.int ((59 : Int32))]) mfX3_take mvX3_take ⟨_, _, rfl⟩ mlX3_75 dX3_tellTable_16 (kX3_take G _ _ _) (fun _ hr => cX3_takek hr) ⟨Nat.le_of_ble_eq_true rfl, Nat.le_of_ble_eq_true rfl⟩ ⟨Nat.le_refl _, Nat.le_refl _⟩ rfl (Nat.le_of_ble_eq_true rfl) (fun r6 σ5 _ => ?_)
  refine hj_pop dX3_tellTable_19 rfl ?_
  refine hj_aload_n 0 dX3_tellTable_20 rfl ?_
  refine hj_getI flX3_15 dX3_tellTable_21 (fun t7 _ => ?_)
  refine hj_if_ne 48 dX3_tellTable_24 (by decide) (fun _ => ?_) (fun _ => ?_)
  · exact hj_vret dX3_tellTable_48 rfl rfl (Nat.le_refl _)
  · refine hj_aload_n 0 dX3_tellTable_27 rfl ?_
    refine hj_iload_n 1 dX3_tellTable_28 rfl ?_
    refine hj_iconst (1 : Int32) dX3_tellTable_29 (by decide) ?_
    refine hj_sipush (999 : Int32) dX3_tellTable_30 (by decide) ?_
    refine hj_callV (ci := 3) (M' := mX3_checkInt) (h' := 2) (As := [.int r4, .int ((1 : Int32)), .int ((999 : Int32))]) mfX3_checkInt mvX3_checkInt ⟨_, _, rfl⟩ mlX3_91 dX3_tellTable_33 (kX3_checkInt G _ _ _ _ _) (fun _ hr => cX3_checkIntk hr) ⟨Nat.le_of_ble_eq_true rfl, Nat.le_of_ble_eq_true rfl⟩ ⟨Nat.le_refl _, Nat.le_refl _⟩ rfl (Nat.le_of_ble_eq_true rfl) (fun _ σ8 _ => ?_)
    refine hj_aload_n 0 dX3_tellTable_36 rfl ?_
    refine hj_getR flX3_37 dX3_tellTable_37 (fun t9 _ => ?_)
    refine hj_aload_n 0 dX3_tellTable_40 rfl ?_
    refine hj_iload_n 1 dX3_tellTable_41 rfl ?_
    refine hj_callV (ci := 3) (M' := mX3_intAt) (h' := 1) (As := [.int r4]) mfX3_intAt mvX3_intAt ⟨_, _, rfl⟩ mlX3_95 dX3_tellTable_42 (kX3_intAt G _ _ _) (fun _ hr => cX3_intAtk hr) ⟨Nat.le_of_ble_eq_true rfl, Nat.le_of_ble_eq_true rfl⟩ ⟨Nat.le_refl _, Nat.le_refl _⟩ rfl (Nat.le_of_ble_eq_true rfl) (fun r11 σ10 _ => ?_)
    refine hj_put (fpX3_121 _) (fun _ => rfl) (fun _ => rfl) dX3_tellTable_45 (fun σ12 _ => ?_)
    exact hj_vret dX3_tellTable_48 rfl rfl (Nat.le_refl _)
theorem cX3_tellTablek {a0 : Nat} {σ : Sto} {r : Unit × Sto} (h : fX3_tellTable a0 σ = some r) : ∃ fs, hs_o σ 3 a0 = some fs := (ck_of h).1
def fX3_parse_b130 (x0 : Nat) (σ : Sto) : Option (Unit × Sto) := ((gI σ 3 x0 3).bind fun t1 => (if t1 = 0 then ((gI σ 3 x0 5).bind fun t2 => ((pV σ 3 x0 3 (.int t2)).bind fun σ3 => ((gI σ3 3 x0 6).bind fun t4 => ((pV σ3 3 x0 4 (.int t4)).bind fun σ5 => (some ((), σ5)))))) else (some ((), σ))))
set_option maxHeartbeats 2000000 in
theorem sX3_parse_b130 {G : GP} {n0 : Nat} : ∀ (x0 : Nat) (σ : Sto), Sim G mX3_parse 29 0 0 n0 jV 0 0 130 [(0, .ref x0)] [] σ (fX3_parse_b130 x0 σ) := by
  intro x0 σ
  unfold fX3_parse_b130
  refine hj_aload_n 0 dX3_parse_130 rfl ?_
  refine hj_getI flX3_15 dX3_parse_131 (fun t1 _ => ?_)
  refine hj_if_ne 153 dX3_parse_134 (by decide) (fun _ => ?_) (fun _ => ?_)
  · exact hj_vret dX3_parse_153 rfl rfl (Nat.le_refl _)
  · refine hj_aload_n 0 dX3_parse_137 rfl ?_
    refine hj_aload_n 0 dX3_parse_138 rfl ?_
    refine hj_getI flX3_21 dX3_parse_139 (fun t2 _ => ?_)
    refine hj_put (fpX3_15 _) (fun _ => rfl) (fun _ => rfl) dX3_parse_142 (fun σ3 _ => ?_)
    refine hj_aload_n 0 dX3_parse_145 rfl ?_
    refine hj_aload_n 0 dX3_parse_146 rfl ?_
    refine hj_getI flX3_24 dX3_parse_147 (fun t4 _ => ?_)
    refine hj_put (fpX3_18 _) (fun _ => rfl) (fun _ => rfl) dX3_parse_150 (fun σ5 _ => ?_)
    exact hj_vret dX3_parse_153 rfl rfl (Nat.le_refl _)
def fX3_parse_b124 (K7 : Nat → Int32 → Sto → Option (Unit × Sto)) (x0 : Nat) (x2 : Int32) (σ : Sto) : Option (Unit × Sto) := (K7 x0 (x2 + (1 : Int32)) σ)
set_option maxHeartbeats 2000000 in
theorem sX3_parse_b124 {G : GP} {n0 : Nat} {K7 : Nat → Int32 → Sto → Option (Unit × Sto)} (hK7 : ∀ (x0 : Nat) (x2 : Int32) (σ : Sto), Sim G mX3_parse 29 0 0 n0 jV 0 0 7 [(0, .ref x0), (2, .int x2)] [] σ (K7 x0 x2 σ)) : ∀ (x0 : Nat) (x2 : Int32) (σ : Sto), Sim G mX3_parse 29 0 0 n0 jV 0 0 124 [(0, .ref x0), (2, .int x2)] [] σ (fX3_parse_b124 K7 x0 x2 σ) := by
  intro x0 x2 σ
  unfold fX3_parse_b124
  refine hj_iinc (lv' := [(0, .ref x0), (2, .int (x2 + (1 : Int32)))]) 1 (1 : Int32) dX3_parse_124 rfl (by decide) (by decide) [1, 0] rfl ?_
  refine hj_goto 7 dX3_parse_127 (by decide) ?_
  refine hj_loc (lv' := [(0, .ref x0), (2, .int (x2 + (1 : Int32)))]) [0, 1] rfl ?_
  exact hK7 _ _ _
def fX3_parse_b7 : Nat → Nat → Int32 → Sto → Option (Unit × Sto)
  | 0, _, _, _ => none
  | n + 1, x0, x2, σ => (if (400 : Int32) < x2 then (fX3_parse_b130 x0 σ) else ((gI σ 3 x0 3).bind fun t6 => (if t6 = 0 then ((gR σ 3 x0 0).bind fun t7 => ((gR σ 9 t7 1).bind fun t8 => ((gI σ 3 x0 2).bind fun t9 => ((aI σ 2 t8 t9).bind fun t10 => (if t10 = (18 : Int32) then (fX3_parse_b130 x0 σ) else ((gR σ 3 x0 0).bind fun t11 => ((gR σ 9 t11 1).bind fun t12 => ((gI σ 3 x0 2).bind fun t13 => ((aI σ 2 t12 t13).bind fun t14 => (if t14 = (0 : Int32) then (cb (fX3_tellBook x0 σ) fun _ σ20 => (fX3_parse_b124 (fX3_parse_b7 n) x0 x2 σ20)) else (if t14 = (1 : Int32) then (cb (fX3_tellHeavy x0 σ) fun _ σ19 => (fX3_parse_b124 (fX3_parse_b7 n) x0 x2 σ19)) else (if t14 = (2 : Int32) then (cb (fX3_tellTable x0 σ) fun _ σ18 => (fX3_parse_b124 (fX3_parse_b7 n) x0 x2 σ18)) else (if t14 = (3 : Int32) then (cb (fX3_tellPile x0 σ) fun _ σ17 => (fX3_parse_b124 (fX3_parse_b7 n) x0 x2 σ17)) else (if t14 = (4 : Int32) then (cb (fX3_tellFly x0 σ) fun _ σ16 => (fX3_parse_b124 (fX3_parse_b7 n) x0 x2 σ16)) else (cb (fX3_fail x0 ((1 : Int32)) σ) fun _ σ15 => (fX3_parse_b124 (fX3_parse_b7 n) x0 x2 σ15)))))))))))))))) else (fX3_parse_b130 x0 σ))))
set_option maxHeartbeats 2000000 in
theorem sX3_parse_b7 {G : GP} {n0 : Nat} : ∀ (n : Nat) (x0 : Nat) (x2 : Int32) (σ : Sto), Sim G mX3_parse 29 0 0 n0 jV 0 0 7 [(0, .ref x0), (2, .int x2)] [] σ (fX3_parse_b7 n x0 x2 σ) := by
  intro n
  induction n with
  | zero => intros; rw [fX3_parse_b7]; exact hj_none
  | succ n ih =>
    intro x0 x2 σ
    rw [fX3_parse_b7]
    refine hj_iload_n 1 dX3_parse_7 rfl ?_
    refine hj_sipush (400 : Int32) dX3_parse_8 (by decide) ?_
    refine hj_icmp_gt 130 dX3_parse_11 (by decide) (fun _ => ?_) (fun _ => ?_)
    · refine hj_loc (lv' := [(0, .ref x0)]) [0] rfl ?_
      exact sX3_parse_b130 _ _
    · refine hj_aload_n 0 dX3_parse_14 rfl ?_
      refine hj_getI flX3_15 dX3_parse_15 (fun t6 _ => ?_)
      refine hj_if_ne 130 dX3_parse_18 (by decide) (fun _ => ?_) (fun _ => ?_)
      · refine hj_loc (lv' := [(0, .ref x0)]) [0] rfl ?_
        exact sX3_parse_b130 _ _
      · refine hj_aload_n 0 dX3_parse_21 rfl ?_
        refine hj_getR flX3_33 dX3_parse_22 (fun t7 _ => ?_)
        refine hj_getR flX3_45 dX3_parse_25 (fun t8 _ => ?_)
        refine hj_aload_n 0 dX3_parse_28 rfl ?_
        refine hj_getI flX3_9 dX3_parse_29 (fun t9 _ => ?_)
        refine hj_iald dX3_parse_32 (fun t10 _ => ?_)
        refine hj_bipush (18 : Int32) dX3_parse_33 (by decide) ?_
        refine hj_icmp_eq 130 dX3_parse_35 (by decide) (fun _ => ?_) (fun _ => ?_)
        · refine hj_loc (lv' := [(0, .ref x0)]) [0] rfl ?_
          exact sX3_parse_b130 _ _
        · refine hj_aload_n 0 dX3_parse_38 rfl ?_
          refine hj_getR flX3_33 dX3_parse_39 (fun t11 _ => ?_)
          refine hj_getR flX3_45 dX3_parse_42 (fun t12 _ => ?_)
          refine hj_aload_n 0 dX3_parse_45 rfl ?_
          refine hj_getI flX3_9 dX3_parse_46 (fun t13 _ => ?_)
          refine hj_iald dX3_parse_49 (fun t14 _ => ?_)
          refine hj_ite (fun n0 => ?_) (fun n0 => ?_)
          · refine hj_tin (0 : Int32) (34) 84 dX3_parse_50 n0 (by decide) (by decide) (by decide) (by decide) ?_
            refine hj_aload_n 0 dX3_parse_84 rfl ?_
            refine hj_callV (ci := 3) (M' := mX3_tellBook) (h' := 3) (As := []) mfX3_tellBook mvX3_tellBook ⟨_, _, rfl⟩ mlX3_51 dX3_parse_85 (kX3_tellBook G _ _) (fun _ hr => cX3_tellBookk hr) ⟨Nat.le_of_ble_eq_true rfl, Nat.le_of_ble_eq_true rfl⟩ ⟨Nat.le_refl _, Nat.le_refl _⟩ rfl (Nat.le_of_ble_eq_true rfl) (fun _ σ20 _ => ?_)
            refine hj_goto 124 dX3_parse_88 (by decide) ?_
            refine hj_loc (lv' := [(0, .ref x0), (2, .int x2)]) [0, 1] rfl ?_
            exact sX3_parse_b124 ih _ _ _
          · refine hj_ite (fun n1 => ?_) (fun n1 => ?_)
            · refine hj_tin (1 : Int32) (41) 91 dX3_parse_50 n1 (by decide) (by decide) (by decide) (by decide) ?_
              refine hj_aload_n 0 dX3_parse_91 rfl ?_
              refine hj_callV (ci := 3) (M' := mX3_tellHeavy) (h' := 28) (As := []) mfX3_tellHeavy mvX3_tellHeavy ⟨_, _, rfl⟩ mlX3_54 dX3_parse_92 (kX3_tellHeavy G _ _) (fun _ hr => cX3_tellHeavyk hr) ⟨Nat.le_of_ble_eq_true rfl, Nat.le_of_ble_eq_true rfl⟩ ⟨Nat.le_refl _, Nat.le_refl _⟩ rfl (Nat.le_of_ble_eq_true rfl) (fun _ σ19 _ => ?_)
              refine hj_goto 124 dX3_parse_95 (by decide) ?_
              refine hj_loc (lv' := [(0, .ref x0), (2, .int x2)]) [0, 1] rfl ?_
              exact sX3_parse_b124 ih _ _ _
            · refine hj_ite (fun n2 => ?_) (fun n2 => ?_)
              · refine hj_tin (2 : Int32) (48) 98 dX3_parse_50 n2 (by decide) (by decide) (by decide) (by decide) ?_
                refine hj_aload_n 0 dX3_parse_98 rfl ?_
                refine hj_callV (ci := 3) (M' := mX3_tellTable) (h' := 3) (As := []) mfX3_tellTable mvX3_tellTable ⟨_, _, rfl⟩ mlX3_57 dX3_parse_99 (kX3_tellTable G _ _) (fun _ hr => cX3_tellTablek hr) ⟨Nat.le_of_ble_eq_true rfl, Nat.le_of_ble_eq_true rfl⟩ ⟨Nat.le_refl _, Nat.le_refl _⟩ rfl (Nat.le_of_ble_eq_true rfl) (fun _ σ18 _ => ?_)
                refine hj_goto 124 dX3_parse_102 (by decide) ?_
                refine hj_loc (lv' := [(0, .ref x0), (2, .int x2)]) [0, 1] rfl ?_
                exact sX3_parse_b124 ih _ _ _
              · refine hj_ite (fun n3 => ?_) (fun n3 => ?_)
                · refine hj_tin (3 : Int32) (55) 105 dX3_parse_50 n3 (by decide) (by decide) (by decide) (by decide) ?_
                  refine hj_aload_n 0 dX3_parse_105 rfl ?_
                  refine hj_callV (ci := 3) (M' := mX3_tellPile) (h' := 4) (As := []) mfX3_tellPile mvX3_tellPile ⟨_, _, rfl⟩ mlX3_60 dX3_parse_106 (kX3_tellPile G _ _) (fun _ hr => cX3_tellPilek hr) ⟨Nat.le_of_ble_eq_true rfl, Nat.le_of_ble_eq_true rfl⟩ ⟨Nat.le_refl _, Nat.le_refl _⟩ rfl (Nat.le_of_ble_eq_true rfl) (fun _ σ17 _ => ?_)
                  refine hj_goto 124 dX3_parse_109 (by decide) ?_
                  refine hj_loc (lv' := [(0, .ref x0), (2, .int x2)]) [0, 1] rfl ?_
                  exact sX3_parse_b124 ih _ _ _
                · refine hj_ite (fun n4 => ?_) (fun n4 => ?_)
                  · refine hj_tin (4 : Int32) (62) 112 dX3_parse_50 n4 (by decide) (by decide) (by decide) (by decide) ?_
                    refine hj_aload_n 0 dX3_parse_112 rfl ?_
                    refine hj_callV (ci := 3) (M' := mX3_tellFly) (h' := 3) (As := []) mfX3_tellFly mvX3_tellFly ⟨_, _, rfl⟩ mlX3_63 dX3_parse_113 (kX3_tellFly G _ _) (fun _ hr => cX3_tellFlyk hr) ⟨Nat.le_of_ble_eq_true rfl, Nat.le_of_ble_eq_true rfl⟩ ⟨Nat.le_refl _, Nat.le_refl _⟩ rfl (Nat.le_of_ble_eq_true rfl) (fun _ σ16 _ => ?_)
                    refine hj_goto 124 dX3_parse_116 (by decide) ?_
                    refine hj_loc (lv' := [(0, .ref x0), (2, .int x2)]) [0, 1] rfl ?_
                    exact sX3_parse_b124 ih _ _ _
                  · refine hj_tout 119 dX3_parse_50 (by have := lv_neT (a := 0) n0 (by decide); have := lv_neT (a := 1) n1 (by decide); have := lv_neT (a := 2) n2 (by decide); have := lv_neT (a := 3) n3 (by decide); have := lv_neT (a := 4) n4 (by decide); omega) (by decide) ?_
                    refine hj_aload_n 0 dX3_parse_119 rfl ?_
                    refine hj_iconst (1 : Int32) dX3_parse_120 (by decide) ?_
                    refine hj_callV (ci := 3) (M' := mX3_fail) (h' := 1) (As := [.int ((1 : Int32))]) mfX3_fail mvX3_fail ⟨_, _, rfl⟩ mlX3_66 dX3_parse_121 (kX3_fail G _ _ _) (fun _ hr => cX3_failk hr) ⟨Nat.le_of_ble_eq_true rfl, Nat.le_of_ble_eq_true rfl⟩ ⟨Nat.le_refl _, Nat.le_refl _⟩ rfl (Nat.le_of_ble_eq_true rfl) (fun _ σ15 _ => ?_)
                    refine hj_loc (lv' := [(0, .ref x0), (2, .int x2)]) [0, 1] rfl ?_
                    exact sX3_parse_b124 ih _ _ _
def fX3_parse (a0 : Nat) (a1 : Nat) (σ : Sto) : Option (Unit × Sto) := ck σ 3 a0 (cb (fX3_start a0 a1 σ) fun _ σ21 => (fX3_parse_b7 FU a0 ((0 : Int32)) σ21))
set_option maxHeartbeats 2000000 in
theorem kX3_parse (G : GP) (a0 : Nat) (a1 : Nat) (σ : Sto) : Me G mX3_parse 29 0 0 jV [.ref a0, .ref a1] σ (fX3_parse a0 a1 σ) := by
  refine hs_me (lv := [(0, .ref a0), (1, .ref a1)]) (plainFor_of_name (by decide +kernel)) (Nat.le_of_ble_eq_true rfl) rfl ?_
  unfold fX3_parse
  refine hj_ck ?_
  refine hj_aload_n 0 dX3_parse_0 rfl ?_
  refine hj_aload_n 1 dX3_parse_1 rfl ?_
  refine hj_callV (ci := 3) (M' := mX3_start) (h' := 2) (As := [.ref a1]) mfX3_start mvX3_start ⟨_, _, rfl⟩ mlX3_41 dX3_parse_2 (kX3_start G _ _ _) (fun _ hr => cX3_startk hr) ⟨Nat.le_of_ble_eq_true rfl, Nat.le_of_ble_eq_true rfl⟩ ⟨Nat.le_refl _, Nat.le_refl _⟩ rfl (Nat.le_of_ble_eq_true rfl) (fun _ σ21 _ => ?_)
  refine hj_iconst (0 : Int32) dX3_parse_5 (by decide) ?_
  refine hj_istore_n (lv' := [(0, .ref a0), (1, .ref a1), (2, .int (0 : Int32))]) dX3_parse_6 (by decide) [1, 2, 0] rfl ?_
  refine hj_loc (lv' := [(0, .ref a0), (2, .int (0 : Int32))]) [0, 2] rfl ?_
  exact sX3_parse_b7 _ _ _ _
theorem cX3_parsek {a0 : Nat} {a1 : Nat} {σ : Sto} {r : Unit × Sto} (h : fX3_parse a0 a1 σ = some r) : ∃ fs, hs_o σ 3 a0 = some fs := (ck_of h).1
