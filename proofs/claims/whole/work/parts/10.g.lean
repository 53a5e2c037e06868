def fX11_putBytes_b3 : Nat → Nat → Int32 → Int32 → Sto → Option (Unit × Sto)
  | 0, _, _, _, _ => none
  | n + 1, x0, x1, x2, σ => (if x2 < 0 then (some ((), σ)) else ((gI σ 11 x0 1).bind fun t1 => (if (2000 : Int32) ≤ t1 then (some ((), σ)) else ((gR σ 11 x0 0).bind fun t2 => ((gI σ 11 x0 1).bind fun t3 => ((sI σ 1 t2 t3 (((((((x1.toUInt32 >>> (x2.toUInt32 &&& Int32.toUInt32 31)).toInt32) &&& ((255 : Int32)))).toUInt32 % 65536).toInt32))).bind fun σ4 => ((gI σ4 11 x0 1).bind fun t5 => ((pV σ4 11 x0 1 (.int ((t5 + ((1 : Int32)))))).bind fun σ6 => (fX11_putBytes_b3 n x0 x1 (x2 + (-8 : Int32)) σ6)))))))))
set_option maxHeartbeats 2000000 in
theorem sX11_putBytes_b3 {G : GP} {n0 : Nat} : ∀ (n : Nat) (x0 : Nat) (x1 : Int32) (x2 : Int32) (σ : Sto), Sim G mX11_putBytes 1 0 0 n0 jV 0 0 3 [(0, .ref x0), (1, .int x1), (2, .int x2)] [] σ (fX11_putBytes_b3 n x0 x1 x2 σ) := by
  intro n
  induction n with
  | zero => intros; rw [fX11_putBytes_b3]; exact hj_none
  | succ n ih =>
    intro x0 x1 x2 σ
    rw [fX11_putBytes_b3]
    refine hj_iload_n 2 dX11_putBytes_3 rfl ?_
    refine hj_if_lt 50 dX11_putBytes_4 (by decide) (fun _ => ?_) (fun _ => ?_)
    · exact hj_vret dX11_putBytes_50 rfl rfl (Nat.le_refl _)
    · refine hj_aload_n 0 dX11_putBytes_7 rfl ?_
      refine hj_getI flX11_13 dX11_putBytes_8 (fun t1 _ => ?_)
      refine hj_sipush (2000 : Int32) dX11_putBytes_11 (by decide) ?_
      refine hj_icmp_ge 50 dX11_putBytes_14 (by decide) (fun _ => ?_) (fun _ => ?_)
      · exact hj_vret dX11_putBytes_50 rfl rfl (Nat.le_refl _)
      · refine hj_aload_n 0 dX11_putBytes_17 rfl ?_
        refine hj_getR flX11_9 dX11_putBytes_18 (fun t2 _ => ?_)
        refine hj_aload_n 0 dX11_putBytes_21 rfl ?_
        refine hj_getI flX11_13 dX11_putBytes_22 (fun t3 _ => ?_)
        refine hj_iload_n 1 dX11_putBytes_25 rfl ?_
        refine hj_iload_n 2 dX11_putBytes_26 rfl ?_
        refine hj_iushr dX11_putBytes_27 ?_
        refine hj_sipush (255 : Int32) dX11_putBytes_28 (by decide) ?_
        refine hj_iand dX11_putBytes_31 ?_
        refine hj_i2c dX11_putBytes_32 ?_
        refine hj_cast dX11_putBytes_33 (fun σ4 _ => ?_)
        refine hj_aload_n 0 dX11_putBytes_34 rfl ?_
        refine hj_dup dX11_putBytes_35 rfl ?_
        refine hj_getI flX11_13 dX11_putBytes_36 (fun t5 _ => ?_)
        refine hj_iconst (1 : Int32) dX11_putBytes_39 (by decide) ?_
        refine hj_iadd dX11_putBytes_40 ?_
        refine hj_put (fpX11_13 _) (fun _ => rfl) (fun _ => rfl) dX11_putBytes_41 (fun σ6 _ => ?_)
        refine hj_iinc (lv' := [(0, .ref x0), (1, .int x1), (2, .int (x2 + (-8 : Int32)))]) 2 (-8 : Int32) dX11_putBytes_44 rfl (by decide) (by decide) [1, 2, 0] rfl ?_
        refine hj_goto 3 dX11_putBytes_47 (by decide) ?_
        refine hj_loc (lv' := [(0, .ref x0), (1, .int x1), (2, .int (x2 + (-8 : Int32)))]) [0, 1, 2] rfl ?_
        exact ih _ _ _ _
def fX11_putBytes (a0 : Nat) (a1 : Int32) (σ : Sto) : Option (Unit × Sto) := ck σ 11 a0 (fX11_putBytes_b3 FU a0 a1 ((24 : Int32)) σ)
set_option maxHeartbeats 2000000 in
theorem kX11_putBytes (G : GP) (a0 : Nat) (a1 : Int32) (σ : Sto) : Me G mX11_putBytes 1 0 0 jV [.ref a0, .int a1] σ (fX11_putBytes a0 a1 σ) := by
  refine hs_me (lv := [(0, .ref a0), (1, .int a1)]) (plainFor_of_name (by decide +kernel)) (Nat.le_of_ble_eq_true rfl) rfl ?_
  unfold fX11_putBytes
  refine hj_ck ?_
  refine hj_bipush (24 : Int32) dX11_putBytes_0 (by decide) ?_
  refine hj_istore_n (lv' := [(0, .ref a0), (1, .int a1), (2, .int (24 : Int32))]) dX11_putBytes_2 (by decide) [1, 2, 0] rfl ?_
  refine hj_loc (lv' := [(0, .ref a0), (1, .int a1), (2, .int (24 : Int32))]) [0, 1, 2] rfl ?_
  exact sX11_putBytes_b3 _ _ _ _ _
theorem cX11_putBytesk {a0 : Nat} {a1 : Int32} {σ : Sto} {r : Unit × Sto} (h : fX11_putBytes a0 a1 σ = some r) : ∃ fs, hs_o σ 11 a0 = some fs := (ck_of h).1
def fX11_feed (a0 : Nat) (a1 : Int32) (a2 : Int32) (a3 : Int32) (a4 : Int32) (a5 : Int32) (σ : Sto) : Option (Int32 × Sto) := ck σ 11 a0 ((gI σ 11 a0 1).bind fun t1 => (if (t1 + ((20 : Int32))) ≤ (2000 : Int32) then (cb (fX11_putBytes a0 a1 σ) fun _ σ2 => (cb (fX11_putBytes a0 a2 σ2) fun _ σ3 => (cb (fX11_putBytes a0 a3 σ3) fun _ σ4 => (cb (fX11_putBytes a0 a4 σ4) fun _ σ5 => (cb (fX11_putBytes a0 a5 σ5) fun _ σ6 => ((gI σ6 11 a0 1).bind fun t7 => (some (t7, σ6)))))))) else (some ((-1 : Int32), σ))))
set_option maxHeartbeats 2000000 in
theorem kX11_feed (G : GP) (a0 : Nat) (a1 : Int32) (a2 : Int32) (a3 : Int32) (a4 : Int32) (a5 : Int32) (σ : Sto) : Me G mX11_feed 2 0 0 jI [.ref a0, .int a1, .int a2, .int a3, .int a4, .int a5] σ (fX11_feed a0 a1 a2 a3 a4 a5 σ) := by
  refine hs_me (lv := [(0, .ref a0), (1, .int a1), (2, .int a2), (3, .int a3), (4, .int a4), (5, .int a5)]) (plainFor_of_name (by decide +kernel)) (Nat.le_of_ble_eq_true rfl) rfl ?_
  unfold fX11_feed
  refine hj_ck ?_
  refine hj_aload_n 0 dX11_feed_0 rfl ?_
  refine hj_getI flX11_13 dX11_feed_1 (fun t1 _ => ?_)
  refine hj_bipush (20 : Int32) dX11_feed_4 (by decide) ?_
  refine hj_iadd dX11_feed_6 ?_
  refine hj_sipush (2000 : Int32) dX11_feed_7 (by decide) ?_
  refine hj_icmp_le 15 dX11_feed_10 (by decide) (fun _ => ?_) (fun _ => ?_)
  · refine hj_aload_n 0 dX11_feed_15 rfl ?_
    refine hj_iload_n 1 dX11_feed_16 rfl ?_
    refine hj_callV (ci := 11) (M' := mX11_putBytes) (h' := 1) (As := [.int a1]) mfX11_putBytes mvX11_putBytes ⟨_, _, rfl⟩ mlX11_101 dX11_feed_17 (kX11_putBytes G _ _ _) (fun _ hr => cX11_putBytesk hr) ⟨Nat.le_of_ble_eq_true rfl, Nat.le_of_ble_eq_true rfl⟩ ⟨Nat.le_refl _, Nat.le_refl _⟩ rfl (Nat.le_of_ble_eq_true rfl) (fun _ σ2 _ => ?_)
    refine hj_aload_n 0 dX11_feed_20 rfl ?_
    refine hj_iload_n 2 dX11_feed_21 rfl ?_
    refine hj_callV (ci := 11) (M' := mX11_putBytes) (h' := 1) (As := [.int a2]) mfX11_putBytes mvX11_putBytes ⟨_, _, rfl⟩ mlX11_101 dX11_feed_22 (kX11_putBytes G _ _ _) (fun _ hr => cX11_putBytesk hr) ⟨Nat.le_of_ble_eq_true rfl, Nat.le_of_ble_eq_true rfl⟩ ⟨Nat.le_refl _, Nat.le_refl _⟩ rfl (Nat.le_of_ble_eq_true rfl) (fun _ σ3 _ => ?_)
    refine hj_aload_n 0 dX11_feed_25 rfl ?_
    refine hj_iload_n 3 dX11_feed_26 rfl ?_
    refine hj_callV (ci := 11) (M' := mX11_putBytes) (h' := 1) (As := [.int a3]) mfX11_putBytes mvX11_putBytes ⟨_, _, rfl⟩ mlX11_101 dX11_feed_27 (kX11_putBytes G _ _ _) (fun _ hr => cX11_putBytesk hr) ⟨Nat.le_of_ble_eq_true rfl, Nat.le_of_ble_eq_true rfl⟩ ⟨Nat.le_refl _, Nat.le_refl _⟩ rfl (Nat.le_of_ble_eq_true rfl) (fun _ σ4 _ => ?_)
    refine hj_aload_n 0 dX11_feed_30 rfl ?_
    refine hj_iload 4 dX11_feed_31 rfl ?_
    refine hj_callV (ci := 11) (M' := mX11_putBytes) (h' := 1) (As := [.int a4]) mfX11_putBytes mvX11_putBytes ⟨_, _, rfl⟩ mlX11_101 dX11_feed_33 (kX11_putBytes G _ _ _) (fun _ hr => cX11_putBytesk hr) ⟨Nat.le_of_ble_eq_true rfl, Nat.le_of_ble_eq_true rfl⟩ ⟨Nat.le_refl _, Nat.le_refl _⟩ rfl (Nat.le_of_ble_eq_true rfl) (fun _ σ5 _ => ?_)
    refine hj_aload_n 0 dX11_feed_36 rfl ?_
    refine hj_iload 5 dX11_feed_37 rfl ?_
    refine hj_callV (ci := 11) (M' := mX11_putBytes) (h' := 1) (As := [.int a5]) mfX11_putBytes mvX11_putBytes ⟨_, _, rfl⟩ mlX11_101 dX11_feed_39 (kX11_putBytes G _ _ _) (fun _ hr => cX11_putBytesk hr) ⟨Nat.le_of_ble_eq_true rfl, Nat.le_of_ble_eq_true rfl⟩ ⟨Nat.le_refl _, Nat.le_refl _⟩ rfl (Nat.le_of_ble_eq_true rfl) (fun _ σ6 _ => ?_)
    refine hj_aload_n 0 dX11_feed_42 rfl ?_
    refine hj_getI flX11_13 dX11_feed_43 (fun t7 _ => ?_)
    exact hj_iret dX11_feed_46 rfl rfl (Nat.le_refl _)
  · refine hj_iconst (-1 : Int32) dX11_feed_13 (by decide) ?_
    exact hj_iret dX11_feed_14 rfl rfl (Nat.le_refl _)
theorem cX11_feedk {a0 : Nat} {a1 : Int32} {a2 : Int32} {a3 : Int32} {a4 : Int32} {a5 : Int32} {σ : Sto} {r : Int32 × Sto} (h : fX11_feed a0 a1 a2 a3 a4 a5 σ = some r) : ∃ fs, hs_o σ 11 a0 = some fs := (ck_of h).1
def fX11_back (a0 : Nat) (a1 : Int32) (σ : Sto) : Option (Int32 × Sto) := ck σ 11 a0 (if a1 < 0 then (some ((-1 : Int32), σ)) else ((gI σ 11 a0 1).bind fun t1 => (if a1 ≤ t1 then ((gI σ 11 a0 1).bind fun t2 => ((pV σ 11 a0 1 (.int ((t2 - a1)))).bind fun σ3 => ((gI σ3 11 a0 1).bind fun t4 => (some (t4, σ3))))) else (some ((-1 : Int32), σ)))))
set_option maxHeartbeats 2000000 in
theorem kX11_back (G : GP) (a0 : Nat) (a1 : Int32) (σ : Sto) : Me G mX11_back 1 0 0 jI [.ref a0, .int a1] σ (fX11_back a0 a1 σ) := by
  refine hs_me (lv := [(0, .ref a0), (1, .int a1)]) (plainFor_of_name (by decide +kernel)) (Nat.le_of_ble_eq_true rfl) rfl ?_
  unfold fX11_back
  refine hj_ck ?_
  refine hj_iload_n 1 dX11_back_0 rfl ?_
  refine hj_if_lt 12 dX11_back_1 (by decide) (fun _ => ?_) (fun _ => ?_)
  · refine hj_iconst (-1 : Int32) dX11_back_12 (by decide) ?_
    exact hj_iret dX11_back_13 rfl rfl (Nat.le_refl _)
  · refine hj_iload_n 1 dX11_back_4 rfl ?_
    refine hj_aload_n 0 dX11_back_5 rfl ?_
    refine hj_getI flX11_13 dX11_back_6 (fun t1 _ => ?_)
    refine hj_icmp_le 14 dX11_back_9 (by decide) (fun _ => ?_) (fun _ => ?_)
    · refine hj_aload_n 0 dX11_back_14 rfl ?_
      refine hj_dup dX11_back_15 rfl ?_
      refine hj_getI flX11_13 dX11_back_16 (fun t2 _ => ?_)
      refine hj_iload_n 1 dX11_back_19 rfl ?_
      refine hj_isub dX11_back_20 ?_
      refine hj_put (fpX11_13 _) (fun _ => rfl) (fun _ => rfl) dX11_back_21 (fun σ3 _ => ?_)
      refine hj_aload_n 0 dX11_back_24 rfl ?_
      refine hj_getI flX11_13 dX11_back_25 (fun t4 _ => ?_)
      exact hj_iret dX11_back_28 rfl rfl (Nat.le_refl _)
    · refine hj_iconst (-1 : Int32) dX11_back_12 (by decide) ?_
      exact hj_iret dX11_back_13 rfl rfl (Nat.le_refl _)
theorem cX11_backk {a0 : Nat} {a1 : Int32} {σ : Sto} {r : Int32 × Sto} (h : fX11_back a0 a1 σ = some r) : ∃ fs, hs_o σ 11 a0 = some fs := (ck_of h).1
def fX11_read (a0 : Nat) (σ : Sto) : Option (Int32 × Sto) := ck σ 11 a0 ((gR σ 11 a0 2).bind fun t1 => ((gR σ 11 a0 0).bind fun t2 => ((gI σ 11 a0 1).bind fun t3 => (cb (fX9_scan t1 t2 t3 σ) fun _ σ4 => ((pV σ4 11 a0 1 (.int ((0 : Int32)))).bind fun σ5 => ((gR σ5 11 a0 5).bind fun t6 => ((gR σ5 11 a0 4).bind fun t7 => (cb (fX3_parse t6 t7 σ5) fun _ σ8 => ((gR σ8 11 a0 5).bind fun t9 => ((gI σ8 3 t9 3).bind fun t10 => (if t10 = 0 then ((gR σ8 11 a0 3).bind fun t13 => ((gR σ8 11 a0 4).bind fun t14 => ((pV σ8 11 a0 3 (.ref t14)).bind fun σ15 => ((pV σ15 11 a0 4 (.ref t13)).bind fun σ16 => ((gR σ16 11 a0 6).bind fun t17 => ((gR σ16 11 a0 3).bind fun t18 => ((gR σ16 10 t18 14).bind fun t19 => (cb (fX5_copyFrom t17 t19 σ16) fun _ σ20 => ((gR σ20 11 a0 9).bind fun t21 => ((pV σ20 4 t21 0 (.int ((0 : Int32)))).bind fun σ22 => ((gR σ22 11 a0 11).bind fun t23 => ((pV σ22 1 t23 0 (.int ((0 : Int32)))).bind fun σ24 => ((gR σ24 11 a0 10).bind fun t25 => (cb (fX8_empty t25 σ24) fun _ σ26 => ((gR σ26 11 a0 5).bind fun t27 => ((gI σ26 3 t27 3).bind fun t28 => (some (t28, σ26)))))))))))))))))) else ((gR σ8 11 a0 5).bind fun t11 => ((gI σ8 3 t11 3).bind fun t12 => (some (t12, σ8)))))))))))))))
set_option maxHeartbeats 2000000 in
theorem kX11_read (G : GP) (a0 : Nat) (σ : Sto) : Me G mX11_read 30 0 0 jI [.ref a0] σ (fX11_read a0 σ) := by
  refine hs_me (lv := [(0, .ref a0)]) (plainFor_of_name (by decide +kernel)) (Nat.le_of_ble_eq_true rfl) rfl ?_
  unfold fX11_read
  refine hj_ck ?_
  refine hj_aload_n 0 dX11_read_0 rfl ?_
  refine hj_getR flX11_20 dX11_read_1 (fun t1 _ => ?_)
  refine hj_aload_n 0 dX11_read_4 rfl ?_
  refine hj_getR flX11_9 dX11_read_5 (fun t2 _ => ?_)
  refine hj_aload_n 0 dX11_read_8 rfl ?_
  refine hj_getI flX11_13 dX11_read_9 (fun t3 _ => ?_)
  refine hj_callV (ci := 9) (M' := mX9_scan) (h' := 9) (As := [.ref t2, .int t3]) mfX9_scan mvX9_scan ⟨_, _, rfl⟩ mlX11_105 dX11_read_12 (kX9_scan G _ _ _ _) (fun _ hr => cX9_scank hr) ⟨Nat.le_of_ble_eq_true rfl, Nat.le_of_ble_eq_true rfl⟩ ⟨Nat.le_refl _, Nat.le_refl _⟩ rfl (Nat.le_of_ble_eq_true rfl) (fun _ σ4 _ => ?_)
  refine hj_aload_n 0 dX11_read_15 rfl ?_
  refine hj_iconst (0 : Int32) dX11_read_16 (by decide) ?_
  refine hj_put (fpX11_13 _) (fun _ => rfl) (fun _ => rfl) dX11_read_17 (fun σ5 _ => ?_)
  refine hj_aload_n 0 dX11_read_20 rfl ?_
  refine hj_getR flX11_39 dX11_read_21 (fun t6 _ => ?_)
  refine hj_aload_n 0 dX11_read_24 rfl ?_
  refine hj_getR flX11_31 dX11_read_25 (fun t7 _ => ?_)
  refine hj_callV (ci := 3) (M' := mX3_parse) (h' := 29) (As := [.ref t7]) mfX3_parse mvX3_parse ⟨_, _, rfl⟩ mlX11_109 dX11_read_28 (kX3_parse G _ _ _) (fun _ hr => cX3_parsek hr) ⟨Nat.le_of_ble_eq_true rfl, Nat.le_of_ble_eq_true rfl⟩ ⟨Nat.le_refl _, Nat.le_refl _⟩ rfl (Nat.le_of_ble_eq_true rfl) (fun _ σ8 _ => ?_)
  refine hj_aload_n 0 dX11_read_31 rfl ?_
  refine hj_getR flX11_39 dX11_read_32 (fun t9 _ => ?_)
  refine hj_getI flX11_113 dX11_read_35 (fun t10 _ => ?_)
  refine hj_if_ne 96 dX11_read_38 (by decide) (fun _ => ?_) (fun _ => ?_)
  · refine hj_aload_n 0 dX11_read_96 rfl ?_
    refine hj_getR flX11_39 dX11_read_97 (fun t11 _ => ?_)
    refine hj_getI flX11_113 dX11_read_100 (fun t12 _ => ?_)
    exact hj_iret dX11_read_103 rfl rfl (Nat.le_refl _)
  · refine hj_aload_n 0 dX11_read_41 rfl ?_
    refine hj_getR flX11_27 dX11_read_42 (fun t13 _ => ?_)
    refine hj_astore_n (lv' := [(0, .ref a0), (1, .ref t13)]) dX11_read_45 (by decide) [1, 0] rfl ?_
    refine hj_aload_n 0 dX11_read_46 rfl ?_
    refine hj_aload_n 0 dX11_read_47 rfl ?_
    refine hj_getR flX11_31 dX11_read_48 (fun t14 _ => ?_)
    refine hj_put (fpX11_27 _) (fun _ => rfl) (fun _ => rfl) dX11_read_51 (fun σ15 _ => ?_)
    refine hj_aload_n 0 dX11_read_54 rfl ?_
    refine hj_aload_n 1 dX11_read_55 rfl ?_
    refine hj_put (fpX11_31 _) (fun _ => rfl) (fun _ => rfl) dX11_read_56 (fun σ16 _ => ?_)
    refine hj_aload_n 0 dX11_read_59 rfl ?_
    refine hj_getR flX11_46 dX11_read_60 (fun t17 _ => ?_)
    refine hj_aload_n 0 dX11_read_63 rfl ?_
    refine hj_getR flX11_27 dX11_read_64 (fun t18 _ => ?_)
    refine hj_getR flX11_116 dX11_read_67 (fun t19 _ => ?_)
    refine hj_callV (ci := 5) (M' := mX5_copyFrom) (h' := 2) (As := [.ref t19]) mfX5_copyFrom mvX5_copyFrom ⟨_, _, rfl⟩ mlX11_117 dX11_read_70 (kX5_copyFrom G _ _ _) (fun _ hr => cX5_copyFromk hr) ⟨Nat.le_of_ble_eq_true rfl, Nat.le_of_ble_eq_true rfl⟩ ⟨Nat.le_refl _, Nat.le_refl _⟩ rfl (Nat.le_of_ble_eq_true rfl) (fun _ σ20 _ => ?_)
    refine hj_aload_n 0 dX11_read_73 rfl ?_
    refine hj_getR flX11_65 dX11_read_74 (fun t21 _ => ?_)
    refine hj_iconst (0 : Int32) dX11_read_77 (by decide) ?_
    refine hj_put (fpX11_121 _) (fun _ => rfl) (fun _ => rfl) dX11_read_78 (fun σ22 _ => ?_)
    refine hj_aload_n 0 dX11_read_81 rfl ?_
    refine hj_getR flX11_79 dX11_read_82 (fun t23 _ => ?_)
    refine hj_iconst (0 : Int32) dX11_read_85 (by decide) ?_
    refine hj_put (fpX11_124 _) (fun _ => rfl) (fun _ => rfl) dX11_read_86 (fun σ24 _ => ?_)
    refine hj_aload_n 0 dX11_read_89 rfl ?_
    refine hj_getR flX11_72 dX11_read_90 (fun t25 _ => ?_)
    refine hj_callV (ci := 8) (M' := mX8_empty) (h' := 1) (As := []) mfX8_empty mvX8_empty ⟨_, _, rfl⟩ mlX11_125 dX11_read_93 (kX8_empty G _ _) (fun _ hr => cX8_emptyk hr) ⟨Nat.le_of_ble_eq_true rfl, Nat.le_of_ble_eq_true rfl⟩ ⟨Nat.le_refl _, Nat.le_refl _⟩ rfl (Nat.le_of_ble_eq_true rfl) (fun _ σ26 _ => ?_)
    refine hj_aload_n 0 dX11_read_96 rfl ?_
    refine hj_getR flX11_39 dX11_read_97 (fun t27 _ => ?_)
    refine hj_getI flX11_113 dX11_read_100 (fun t28 _ => ?_)
    exact hj_iret dX11_read_103 rfl rfl (Nat.le_refl _)
theorem cX11_readk {a0 : Nat} {σ : Sto} {r : Int32 × Sto} (h : fX11_read a0 σ = some r) : ∃ fs, hs_o σ 11 a0 = some fs := (ck_of h).1
def fX11_place (a0 : Nat) (σ : Sto) : Option (Int32 × Sto) := ck σ 11 a0 ((gR σ 11 a0 5).bind fun t1 => ((gI σ 3 t1 4).bind fun t2 => (some (t2, σ))))
set_option maxHeartbeats 2000000 in
theorem kX11_place (G : GP) (a0 : Nat) (σ : Sto) : Me G mX11_place 1 0 0 jI [.ref a0] σ (fX11_place a0 σ) := by
  refine hs_me (lv := [(0, .ref a0)]) (plainFor_of_name (by decide +kernel)) (Nat.le_of_ble_eq_true rfl) rfl ?_
  unfold fX11_place
  refine hj_ck ?_
  refine hj_aload_n 0 dX11_place_0 rfl ?_
  refine hj_getR flX11_39 dX11_place_1 (fun t1 _ => ?_)
  refine hj_getI flX11_128 dX11_place_4 (fun t2 _ => ?_)
  exact hj_iret dX11_place_7 rfl rfl (Nat.le_refl _)
theorem cX11_placek {a0 : Nat} {σ : Sto} {r : Int32 × Sto} (h : fX11_place a0 σ = some r) : ∃ fs, hs_o σ 11 a0 = some fs := (ck_of h).1
def fX11_isBook (a0 : Nat) (a1 : Int32) (σ : Sto) : Option (Int32 × Sto) := ck σ 11 a0 (if a1 < 0 then (some ((0 : Int32), σ)) else ((gR σ 11 a0 3).bind fun t1 => ((gI σ 10 t1 0).bind fun t2 => (if t2 ≤ a1 then (some ((0 : Int32), σ)) else (some ((1 : Int32), σ))))))
set_option maxHeartbeats 2000000 in
theorem kX11_isBook (G : GP) (a0 : Nat) (a1 : Int32) (σ : Sto) : Me G mX11_isBook 1 0 0 jI [.ref a0, .int a1] σ (fX11_isBook a0 a1 σ) := by
  refine hs_me (lv := [(0, .ref a0), (1, .int a1)]) (plainFor_of_name (by decide +kernel)) (Nat.le_of_ble_eq_true rfl) rfl ?_
  unfold fX11_isBook
  refine hj_ck ?_
  refine hj_iload_n 1 dX11_isBook_0 rfl ?_
  refine hj_if_lt 19 dX11_isBook_1 (by decide) (fun _ => ?_) (fun _ => ?_)
  · refine hj_iconst (0 : Int32) dX11_isBook_19 (by decide) ?_
    exact hj_zret dX11_isBook_20 rfl (by decide) rfl (Nat.le_refl _)
  · refine hj_iload_n 1 dX11_isBook_4 rfl ?_
    refine hj_aload_n 0 dX11_isBook_5 rfl ?_
    refine hj_getR flX11_27 dX11_isBook_6 (fun t1 _ => ?_)
    refine hj_getI flX11_251 dX11_isBook_9 (fun t2 _ => ?_)
    refine hj_icmp_ge 19 dX11_isBook_12 (by decide) (fun _ => ?_) (fun _ => ?_)
    · refine hj_iconst (0 : Int32) dX11_isBook_19 (by decide) ?_
      exact hj_zret dX11_isBook_20 rfl (by decide) rfl (Nat.le_refl _)
    · refine hj_iconst (1 : Int32) dX11_isBook_15 (by decide) ?_
      refine hj_goto 20 dX11_isBook_16 (by decide) ?_
      exact hj_zret dX11_isBook_20 rfl (by decide) rfl (Nat.le_refl _)
theorem cX11_isBookk {a0 : Nat} {a1 : Int32} {σ : Sto} {r : Int32 × Sto} (h : fX11_isBook a0 a1 σ = some r) : ∃ fs, hs_o σ 11 a0 = some fs := (ck_of h).1
def fX11_book_b31 (x0 : Nat) (x1 : Int32) (x2 : Int32) (x3 : Int32) (y0 : Int32) (σ : Sto) : Option (Int32 × Sto) := (if x2 = (0 : Int32) then ((gR σ 11 x0 3).bind fun t17 => ((gR σ 10 t17 2).bind fun t18 => ((aI σ 2 t18 x1).bind fun t19 => (some (t19, σ))))) else (if x2 = (1 : Int32) then ((gR σ 11 x0 3).bind fun t14 => ((gR σ 10 t14 3).bind fun t15 => ((aI σ 2 t15 x1).bind fun t16 => (some (t16, σ))))) else (if x2 = (2 : Int32) then (if y0 = 0 then ((gR σ 11 x0 3).bind fun t7 => ((gR σ 10 t7 3).bind fun t8 => ((aI σ 2 t8 x1).bind fun t9 => (some (t9, σ))))) else ((gR σ 11 x0 3).bind fun t10 => ((gR σ 11 x0 6).bind fun t11 => (cb (fX10_weighs t10 t11 x3 σ) fun r13 σ12 => (some (r13, σ12)))))) else (if x2 = (3 : Int32) then (if y0 = 0 then (some ((-2 : Int32), σ)) else (some (x3, σ))) else (if x2 = (4 : Int32) then (if y0 = 0 then (some ((-1000 : Int32), σ)) else ((gR σ 11 x0 6).bind fun t4 => ((gR σ 5 t4 2).bind fun t5 => ((aI σ 2 t5 x3).bind fun t6 => (some (t6, σ)))))) else (if x2 = (5 : Int32) then (if y0 = 0 then (some ((0 : Int32), σ)) else ((gR σ 11 x0 6).bind fun t1 => ((gR σ 5 t1 3).bind fun t2 => ((aI σ 4 t2 x3).bind fun t3 => (if t3 = 0 then (some ((0 : Int32), σ)) else (some ((1 : Int32), σ))))))) else (some ((-10000 : Int32), σ))))))))
set_option maxHeartbeats 2000000 in
theorem sX11_book_b31 {G : GP} {n0 : Nat} : ∀ (x0 : Nat) (x1 : Int32) (x2 : Int32) (x3 : Int32) (y0 : Int32) (σ : Sto), Sim G mX11_book 4 0 0 n0 jI 0 0 31 [(0, .ref x0), (1, .int x1), (2, .int x2), (3, .int x3)] [.int y0] σ (fX11_book_b31 x0 x1 x2 x3 y0 σ) := by
  intro x0 x1 x2 x3 y0 σ
  unfold fX11_book_b31
  refine hj_istore (lv' := [(0, .ref x0), (1, .int x1), (2, .int x2), (3, .int x3), (4, .int y0)]) dX11_book_31 (by decide) [1, 2, 3, 4, 0] rfl ?_
  refine hj_iload_n 2 dX11_book_33 rfl ?_
  refine hj_ite (fun n0 => ?_) (fun n0 => ?_)
  · refine hj_tin (0 : Int32) (38) 72 dX11_book_34 n0 (by decide) (by decide) (by decide) (by decide) ?_
    refine hj_aload_n 0 dX11_book_72 rfl ?_
    refine hj_getR flX11_27 dX11_book_73 (fun t17 _ => ?_)
    refine hj_getR flX11_139 dX11_book_76 (fun t18 _ => ?_)
    refine hj_iload_n 1 dX11_book_79 rfl ?_
    refine hj_iald dX11_book_80 (fun t19 _ => ?_)
    exact hj_iret dX11_book_81 rfl rfl (Nat.le_refl _)
  · refine hj_ite (fun n1 => ?_) (fun n1 => ?_)
    · refine hj_tin (1 : Int32) (48) 82 dX11_book_34 n1 (by decide) (by decide) (by decide) (by decide) ?_
      refine hj_aload_n 0 dX11_book_82 rfl ?_
      refine hj_getR flX11_27 dX11_book_83 (fun t14 _ => ?_)
      refine hj_getR flX11_142 dX11_book_86 (fun t15 _ => ?_)
      refine hj_iload_n 1 dX11_book_89 rfl ?_
      refine hj_iald dX11_book_90 (fun t16 _ => ?_)
      exact hj_iret dX11_book_91 rfl rfl (Nat.le_refl _)
    · refine hj_ite (fun n2 => ?_) (fun n2 => ?_)
      · refine hj_tin (2 : Int32) (58) 92 dX11_book_34 n2 (by decide) (by decide) (by decide) (by decide) ?_
        refine hj_iload 4 dX11_book_92 rfl ?_
        refine hj_if_eq 112 dX11_book_94 (by decide) (fun _ => ?_) (fun _ => ?_)
        · refine hj_aload_n 0 dX11_book_112 rfl ?_
          refine hj_getR flX11_27 dX11_book_113 (fun t7 _ => ?_)
          refine hj_getR flX11_142 dX11_book_116 (fun t8 _ => ?_)
          refine hj_iload_n 1 dX11_book_119 rfl ?_
          refine hj_iald dX11_book_120 (fun t9 _ => ?_)
          exact hj_iret dX11_book_121 rfl rfl (Nat.le_refl _)
        · refine hj_aload_n 0 dX11_book_97 rfl ?_
          refine hj_getR flX11_27 dX11_book_98 (fun t10 _ => ?_)
          refine hj_aload_n 0 dX11_book_101 rfl ?_
          refine hj_getR flX11_46 dX11_book_102 (fun t11 _ => ?_)
          refine hj_iload_n 3 dX11_book_105 rfl ?_
          refine hj_callV (ci := 10) (M' := mX10_weighs) (h' := 3) (As := [.ref t11, .int x3]) mfX10_weighs mvX10_weighs ⟨_, _, rfl⟩ mlX11_145 dX11_book_106 (kX10_weighs G _ _ _ _) (fun _ hr => cX10_weighsk hr) ⟨Nat.le_of_ble_eq_true rfl, Nat.le_of_ble_eq_true rfl⟩ ⟨Nat.le_refl _, Nat.le_refl _⟩ rfl (Nat.le_of_ble_eq_true rfl) (fun r13 σ12 _ => ?_)
          refine hj_goto 121 dX11_book_109 (by decide) ?_
          exact hj_iret dX11_book_121 rfl rfl (Nat.le_refl _)
      · refine hj_ite (fun n3 => ?_) (fun n3 => ?_)
        · refine hj_tin (3 : Int32) (88) 122 dX11_book_34 n3 (by decide) (by decide) (by decide) (by decide) ?_
          refine hj_iload 4 dX11_book_122 rfl ?_
          refine hj_if_eq 131 dX11_book_124 (by decide) (fun _ => ?_) (fun _ => ?_)
          · refine hj_bipush (-2 : Int32) dX11_book_131 (by decide) ?_
            exact hj_iret dX11_book_133 rfl rfl (Nat.le_refl _)
          · refine hj_iload_n 3 dX11_book_127 rfl ?_
            refine hj_goto 133 dX11_book_128 (by decide) ?_
            exact hj_iret dX11_book_133 rfl rfl (Nat.le_refl _)
        · refine hj_ite (fun n4 => ?_) (fun n4 => ?_)
          · refine hj_tin (4 : Int32) (100) 134 dX11_book_34 n4 (by decide) (by decide) (by decide) (by decide) ?_
            refine hj_iload 4 dX11_book_134 rfl ?_
            refine hj_if_eq 151 dX11_book_136 (by decide) (fun _ => ?_) (fun _ => ?_)
            · refine hj_sipush (-1000 : Int32) dX11_book_151 (by decide) ?_
              exact hj_iret dX11_book_154 rfl rfl (Nat.le_refl _)
            · refine hj_aload_n 0 dX11_book_139 rfl ?_
              refine hj_getR flX11_46 dX11_book_140 (fun t4 _ => ?_)
              refine hj_getR flX11_149 dX11_book_143 (fun t5 _ => ?_)
              refine hj_iload_n 3 dX11_book_146 rfl ?_
              refine hj_iald dX11_book_147 (fun t6 _ => ?_)
              refine hj_goto 154 dX11_book_148 (by decide) ?_
              exact hj_iret dX11_book_154 rfl rfl (Nat.le_refl _)
          · refine hj_ite (fun n5 => ?_) (fun n5 => ?_)
            · refine hj_tin (5 : Int32) (121) 155 dX11_book_34 n5 (by decide) (by decide) (by decide) (by decide) ?_
              refine hj_iload 4 dX11_book_155 rfl ?_
              refine hj_if_eq 176 dX11_book_157 (by decide) (fun _ => ?_) (fun _ => ?_)
              · refine hj_iconst (0 : Int32) dX11_book_176 (by decide) ?_
                exact hj_iret dX11_book_177 rfl rfl (Nat.le_refl _)
              · refine hj_aload_n 0 dX11_book_160 rfl ?_
                refine hj_getR flX11_46 dX11_book_161 (fun t1 _ => ?_)
                refine hj_getR flX11_152 dX11_book_164 (fun t2 _ => ?_)
                refine hj_iload_n 3 dX11_book_167 rfl ?_
                refine hj_zald dX11_book_168 (fun t3 _ => ?_)
                refine hj_if_eq 176 dX11_book_169 (by decide) (fun _ => ?_) (fun _ => ?_)
                · refine hj_iconst (0 : Int32) dX11_book_176 (by decide) ?_
                  exact hj_iret dX11_book_177 rfl rfl (Nat.le_refl _)
                · refine hj_iconst (1 : Int32) dX11_book_172 (by decide) ?_
                  refine hj_goto 177 dX11_book_173 (by decide) ?_
                  exact hj_iret dX11_book_177 rfl rfl (Nat.le_refl _)
            · refine hj_tout 178 dX11_book_34 (by have := lv_neT (a := 0) n0 (by decide); have := lv_neT (a := 1) n1 (by decide); have := lv_neT (a := 2) n2 (by decide); have := lv_neT (a := 3) n3 (by decide); have := lv_neT (a := 4) n4 (by decide); have := lv_neT (a := 5) n5 (by decide); omega) (by decide) ?_
              refine hj_sipush (-10000 : Int32) dX11_book_178 (by decide) ?_
              exact hj_iret dX11_book_181 rfl rfl (Nat.le_refl _)
def fX11_book (a0 : Nat) (a1 : Int32) (a2 : Int32) (σ : Sto) : Option (Int32 × Sto) := ck σ 11 a0 (cb (fX11_isBook a0 a1 σ) fun r21 σ20 => (if r21 = 0 then (some ((-10000 : Int32), σ20)) else ((gR σ20 11 a0 6).bind fun t22 => (cb (fX5_levelOf t22 a1 σ20) fun r24 σ23 => (if r24 = (-1 : Int32) then (fX11_book_b31 a0 a1 a2 r24 ((0 : Int32)) σ23) else (fX11_book_b31 a0 a1 a2 r24 ((1 : Int32)) σ23))))))
set_option maxHeartbeats 2000000 in
theorem kX11_book (G : GP) (a0 : Nat) (a1 : Int32) (a2 : Int32) (σ : Sto) : Me G mX11_book 4 0 0 jI [.ref a0, .int a1, .int a2] σ (fX11_book a0 a1 a2 σ) := by
  refine hs_me (lv := [(0, .ref a0), (1, .int a1), (2, .int a2)]) (plainFor_of_name (by decide +kernel)) (Nat.le_of_ble_eq_true rfl) rfl ?_
  unfold fX11_book
  refine hj_ck ?_
  refine hj_aload_n 0 dX11_book_0 rfl ?_
  refine hj_iload_n 1 dX11_book_1 rfl ?_
  refine hj_callV (ci := 11) (M' := mX11_isBook) (h' := 1) (As := [.int a1]) mfX11_isBook mvX11_isBook ⟨_, _, rfl⟩ mlX11_131 dX11_book_2 (kX11_isBook G _ _ _) (fun _ hr => cX11_isBookk hr) ⟨Nat.le_of_ble_eq_true rfl, Nat.le_of_ble_eq_true rfl⟩ ⟨Nat.le_refl _, Nat.le_refl _⟩ rfl (Nat.le_of_ble_eq_true rfl) (fun r21 σ20 _ => ?_)
  refine hj_if_ne 12 dX11_book_5 (by decide) (fun _ => ?_) (fun _ => ?_)
  · refine hj_aload_n 0 dX11_book_12 rfl ?_
    refine hj_getR flX11_46 dX11_book_13 (fun t22 _ => ?_)
    refine hj_iload_n 1 dX11_book_16 rfl ?_
    refine hj_callV (ci := 5) (M' := mX5_levelOf) (h' := 1) (As := [.int a1]) mfX5_levelOf mvX5_levelOf ⟨_, _, rfl⟩ mlX11_135 dX11_book_17 (kX5_levelOf G _ _ _) (fun _ hr => cX5_levelOfk hr) ⟨Nat.le_of_ble_eq_true rfl, Nat.le_of_ble_eq_true rfl⟩ ⟨Nat.le_refl _, Nat.le_refl _⟩ rfl (Nat.le_of_ble_eq_true rfl) (fun r24 σ23 _ => ?_)
    refine hj_istore_n (lv' := [(0, .ref a0), (1, .int a1), (2, .int a2), (3, .int r24)]) dX11_book_20 (by decide) [1, 2, 3, 0] rfl ?_
    refine hj_iload_n 3 dX11_book_21 rfl ?_
    refine hj_iconst (-1 : Int32) dX11_book_22 (by decide) ?_
    refine hj_icmp_eq 30 dX11_book_23 (by decide) (fun _ => ?_) (fun _ => ?_)
    · refine hj_iconst (0 : Int32) dX11_book_30 (by decide) ?_
      refine hj_loc (lv' := [(0, .ref a0), (1, .int a1), (2, .int a2), (3, .int r24)]) [0, 1, 2, 3] rfl ?_
      exact sX11_book_b31 _ _ _ _ _ _
    · refine hj_iconst (1 : Int32) dX11_book_26 (by decide) ?_
      refine hj_goto 31 dX11_book_27 (by decide) ?_
      refine hj_loc (lv' := [(0, .ref a0), (1, .int a1), (2, .int a2), (3, .int r24)]) [0, 1, 2, 3] rfl ?_
      exact sX11_book_b31 _ _ _ _ _ _
  · refine hj_sipush (-10000 : Int32) dX11_book_8 (by decide) ?_
    exact hj_iret dX11_book_11 rfl rfl (Nat.le_refl _)
theorem cX11_bookk {a0 : Nat} {a1 : Int32} {a2 : Int32} {σ : Sto} {r : Int32 × Sto} (h : fX11_book a0 a1 a2 σ = some r) : ∃ fs, hs_o σ 11 a0 = some fs := (ck_of h).1
def fX11_isLevel (a0 : Nat) (a1 : Int32) (σ : Sto) : Option (Int32 × Sto) := ck σ 11 a0 (if a1 < 0 then (some ((0 : Int32), σ)) else ((gR σ 11 a0 6).bind fun t1 => ((gI σ 5 t1 0).bind fun t2 => (if t2 ≤ a1 then (some ((0 : Int32), σ)) else (some ((1 : Int32), σ))))))
set_option maxHeartbeats 2000000 in
theorem kX11_isLevel (G : GP) (a0 : Nat) (a1 : Int32) (σ : Sto) : Me G mX11_isLevel 1 0 0 jI [.ref a0, .int a1] σ (fX11_isLevel a0 a1 σ) := by
  refine hs_me (lv := [(0, .ref a0), (1, .int a1)]) (plainFor_of_name (by decide +kernel)) (Nat.le_of_ble_eq_true rfl) rfl ?_
  unfold fX11_isLevel
  refine hj_ck ?_
  refine hj_iload_n 1 dX11_isLevel_0 rfl ?_
  refine hj_if_lt 19 dX11_isLevel_1 (by decide) (fun _ => ?_) (fun _ => ?_)
  · refine hj_iconst (0 : Int32) dX11_isLevel_19 (by decide) ?_
    exact hj_zret dX11_isLevel_20 rfl (by decide) rfl (Nat.le_refl _)
  · refine hj_iload_n 1 dX11_isLevel_4 rfl ?_
    refine hj_aload_n 0 dX11_isLevel_5 rfl ?_
    refine hj_getR flX11_46 dX11_isLevel_6 (fun t1 _ => ?_)
    refine hj_getI flX11_210 dX11_isLevel_9 (fun t2 _ => ?_)
    refine hj_icmp_ge 19 dX11_isLevel_12 (by decide) (fun _ => ?_) (fun _ => ?_)
    · refine hj_iconst (0 : Int32) dX11_isLevel_19 (by decide) ?_
      exact hj_zret dX11_isLevel_20 rfl (by decide) rfl (Nat.le_refl _)
    · refine hj_iconst (1 : Int32) dX11_isLevel_15 (by decide) ?_
      refine hj_goto 20 dX11_isLevel_16 (by decide) ?_
      exact hj_zret dX11_isLevel_20 rfl (by decide) rfl (Nat.le_refl _)
theorem cX11_isLevelk {a0 : Nat} {a1 : Int32} {σ : Sto} {r : Int32 × Sto} (h : fX11_isLevel a0 a1 σ = some r) : ∃ fs, hs_o σ 11 a0 = some fs := (ck_of h).1
def fX11_level (a0 : Nat) (a1 : Int32) (σ : Sto) : Option (Int32 × Sto) := ck σ 11 a0 (cb (fX11_isLevel a0 a1 σ) fun r2 σ1 => (if r2 = 0 then (some ((-1 : Int32), σ1)) else ((gR σ1 11 a0 6).bind fun t3 => ((gR σ1 5 t3 1).bind fun t4 => ((aI σ1 2 t4 a1).bind fun t5 => (some (t5, σ1)))))))
set_option maxHeartbeats 2000000 in
theorem kX11_level (G : GP) (a0 : Nat) (a1 : Int32) (σ : Sto) : Me G mX11_level 2 0 0 jI [.ref a0, .int a1] σ (fX11_level a0 a1 σ) := by
  refine hs_me (lv := [(0, .ref a0), (1, .int a1)]) (plainFor_of_name (by decide +kernel)) (Nat.le_of_ble_eq_true rfl) rfl ?_
  unfold fX11_level
  refine hj_ck ?_
  refine hj_aload_n 0 dX11_level_0 rfl ?_
  refine hj_iload_n 1 dX11_level_1 rfl ?_
  refine hj_callV (ci := 11) (M' := mX11_isLevel) (h' := 1) (As := [.int a1]) mfX11_isLevel mvX11_isLevel ⟨_, _, rfl⟩ mlX11_156 dX11_level_2 (kX11_isLevel G _ _ _) (fun _ hr => cX11_isLevelk hr) ⟨Nat.le_of_ble_eq_true rfl, Nat.le_of_ble_eq_true rfl⟩ ⟨Nat.le_refl _, Nat.le_refl _⟩ rfl (Nat.le_of_ble_eq_true rfl) (fun r2 σ1 _ => ?_)
  refine hj_if_eq 20 dX11_level_5 (by decide) (fun _ => ?_) (fun _ => ?_)
  · refine hj_iconst (-1 : Int32) dX11_level_20 (by decide) ?_
    exact hj_iret dX11_level_21 rfl rfl (Nat.le_refl _)
  · refine hj_aload_n 0 dX11_level_8 rfl ?_
    refine hj_getR flX11_46 dX11_level_9 (fun t3 _ => ?_)
    refine hj_getR flX11_159 dX11_level_12 (fun t4 _ => ?_)
    refine hj_iload_n 1 dX11_level_15 rfl ?_
    refine hj_iald dX11_level_16 (fun t5 _ => ?_)
    refine hj_goto 21 dX11_level_17 (by decide) ?_
    exact hj_iret dX11_level_21 rfl rfl (Nat.le_refl _)
theorem cX11_levelk {a0 : Nat} {a1 : Int32} {σ : Sto} {r : Int32 × Sto} (h : fX11_level a0 a1 σ = some r) : ∃ fs, hs_o σ 11 a0 = some fs := (ck_of h).1
def fX11_load (a0 : Nat) (a1 : Int32) (σ : Sto) : Option (Int32 × Sto) := ck σ 11 a0 (cb (fX11_isLevel a0 a1 σ) fun r2 σ1 => (if r2 = 0 then (some ((-1 : Int32), σ1)) else ((gR σ1 11 a0 8).bind fun t3 => ((gR σ1 11 a0 3).bind fun t4 => ((gR σ1 11 a0 6).bind fun t5 => (cb (fX0_weigh t3 t4 t5 σ1) fun _ σ6 => ((gR σ6 11 a0 8).bind fun t7 => ((gR σ6 0 t7 2).bind fun t8 => ((aI σ6 2 t8 a1).bind fun t9 => (some (t9, σ6)))))))))))
set_option maxHeartbeats 2000000 in
theorem kX11_load (G : GP) (a0 : Nat) (a1 : Int32) (σ : Sto) : Me G mX11_load 5 0 0 jI [.ref a0, .int a1] σ (fX11_load a0 a1 σ) := by
  refine hs_me (lv := [(0, .ref a0), (1, .int a1)]) (plainFor_of_name (by decide +kernel)) (Nat.le_of_ble_eq_true rfl) rfl ?_
  unfold fX11_load
  refine hj_ck ?_
  refine hj_aload_n 0 dX11_load_0 rfl ?_
  refine hj_iload_n 1 dX11_load_1 rfl ?_
  refine hj_callV (ci := 11) (M' := mX11_isLevel) (h' := 1) (As := [.int a1]) mfX11_isLevel mvX11_isLevel ⟨_, _, rfl⟩ mlX11_156 dX11_load_2 (kX11_isLevel G _ _ _) (fun _ hr => cX11_isLevelk hr) ⟨Nat.le_of_ble_eq_true rfl, Nat.le_of_ble_eq_true rfl⟩ ⟨Nat.le_refl _, Nat.le_refl _⟩ rfl (Nat.le_of_ble_eq_true rfl) (fun r2 σ1 _ => ?_)
  refine hj_if_ne 10 dX11_load_5 (by decide) (fun _ => ?_) (fun _ => ?_)
  · refine hj_aload_n 0 dX11_load_10 rfl ?_
    refine hj_getR flX11_58 dX11_load_11 (fun t3 _ => ?_)
    refine hj_aload_n 0 dX11_load_14 rfl ?_
    refine hj_getR flX11_27 dX11_load_15 (fun t4 _ => ?_)
    refine hj_aload_n 0 dX11_load_18 rfl ?_
    refine hj_getR flX11_46 dX11_load_19 (fun t5 _ => ?_)
    refine hj_callV (ci := 0) (M' := mX0_weigh) (h' := 4) (As := [.ref t4, .ref t5]) mfX0_weigh mvX0_weigh ⟨_, _, rfl⟩ mlX11_162 dX11_load_22 (kX0_weigh G _ _ _ _) (fun _ hr => cX0_weighk hr) ⟨Nat.le_of_ble_eq_true rfl, Nat.le_of_ble_eq_true rfl⟩ ⟨Nat.le_refl _, Nat.le_refl _⟩ rfl (Nat.le_of_ble_eq_true rfl) (fun _ σ6 _ => ?_)
    refine hj_aload_n 0 dX11_load_25 rfl ?_
    refine hj_getR flX11_58 dX11_load_26 (fun t7 _ => ?_)
    refine hj_getR flX11_165 dX11_load_29 (fun t8 _ => ?_)
    refine hj_iload_n 1 dX11_load_32 rfl ?_
    refine hj_iald dX11_load_33 (fun t9 _ => ?_)
    exact hj_iret dX11_load_34 rfl rfl (Nat.le_refl _)
  · refine hj_iconst (-1 : Int32) dX11_load_8 (by decide) ?_
    exact hj_iret dX11_load_9 rfl rfl (Nat.le_refl _)
theorem cX11_loadk {a0 : Nat} {a1 : Int32} {σ : Sto} {r : Int32 × Sto} (h : fX11_load a0 a1 σ = some r) : ∃ fs, hs_o σ 11 a0 = some fs := (ck_of h).1
def fX11_point (a0 : Nat) (a1 : Int32) (a2 : Int32) (σ : Sto) : Option (Int64 × Sto) := ck σ 11 a0 (cb (fX11_isLevel a0 a1 σ) fun r2 σ1 => (if r2 = 0 then (some ((-1000000 : Int64), σ1)) else ((gR σ1 11 a0 8).bind fun t3 => ((gR σ1 11 a0 3).bind fun t4 => ((gR σ1 11 a0 6).bind fun t5 => (cb (fX0_weigh t3 t4 t5 σ1) fun _ σ6 => ((gR σ6 11 a0 13).bind fun t7 => ((gR σ6 11 a0 8).bind fun t8 => ((gR σ6 0 t8 3).bind fun t9 => ((aI σ6 2 t9 a1).bind fun t10 => ((gR σ6 11 a0 8).bind fun t11 => ((gR σ6 0 t11 2).bind fun t12 => ((aI σ6 2 t12 a1).bind fun t13 => (cb (fX6_become t7 ((t10.toInt64)) ((((2 : Int64)) * ((t13.toInt64)))) σ6) fun _ σ14 => ((gR σ14 11 a0 13).bind fun t15 => (cb (fX6_part t15 a2 σ14) fun r17 σ16 => (some (r17, σ16))))))))))))))))))
set_option maxHeartbeats 2000000 in
theorem kX11_point (G : GP) (a0 : Nat) (a1 : Int32) (a2 : Int32) (σ : Sto) : Me G mX11_point 5 0 0 jL [.ref a0, .int a1, .int a2] σ (fX11_point a0 a1 a2 σ) := by
  refine hs_me (lv := [(0, .ref a0), (1, .int a1), (2, .int a2)]) (plainFor_of_name (by decide +kernel)) (Nat.le_of_ble_eq_true rfl) rfl ?_
  unfold fX11_point
  refine hj_ck ?_
  refine hj_aload_n 0 dX11_point_0 rfl ?_
  refine hj_iload_n 1 dX11_point_1 rfl ?_
  refine hj_callV (ci := 11) (M' := mX11_isLevel) (h' := 1) (As := [.int a1]) mfX11_isLevel mvX11_isLevel ⟨_, _, rfl⟩ mlX11_156 dX11_point_2 (kX11_isLevel G _ _ _) (fun _ hr => cX11_isLevelk hr) ⟨Nat.le_of_ble_eq_true rfl, Nat.le_of_ble_eq_true rfl⟩ ⟨Nat.le_refl _, Nat.le_refl _⟩ rfl (Nat.le_of_ble_eq_true rfl) (fun r2 σ1 _ => ?_)
  refine hj_if_ne 12 dX11_point_5 (by decide) (fun _ => ?_) (fun _ => ?_)
  · refine hj_aload_n 0 dX11_point_12 rfl ?_
    refine hj_getR flX11_58 dX11_point_13 (fun t3 _ => ?_)
    refine hj_aload_n 0 dX11_point_16 rfl ?_
    refine hj_getR flX11_27 dX11_point_17 (fun t4 _ => ?_)
    refine hj_aload_n 0 dX11_point_20 rfl ?_
    refine hj_getR flX11_46 dX11_point_21 (fun t5 _ => ?_)
    refine hj_callV (ci := 0) (M' := mX0_weigh) (h' := 4) (As := [.ref t4, .ref t5]) mfX0_weigh mvX0_weigh ⟨_, _, rfl⟩ mlX11_162 dX11_point_24 (kX0_weigh G _ _ _ _) (fun _ hr => cX0_weighk hr) ⟨Nat.le_of_ble_eq_true rfl, Nat.le_of_ble_eq_true rfl⟩ ⟨Nat.le_refl _, Nat.le_refl _⟩ rfl (Nat.le_of_ble_eq_true rfl) (fun _ σ6 _ => ?_)
    refine hj_aload_n 0 dX11_point_27 rfl ?_
    refine hj_getR flX11_93 dX11_point_28 (fun t7 _ => ?_)
    refine hj_aload_n 0 dX11_point_31 rfl ?_
    refine hj_getR flX11_58 dX11_point_32 (fun t8 _ => ?_)
    refine hj_getR flX11_170 dX11_point_35 (fun t9 _ => ?_)
    refine hj_iload_n 1 dX11_point_38 rfl ?_
    refine hj_iald dX11_point_39 (fun t10 _ => ?_)
    refine hj_i2l dX11_point_40 ?_
    refine hj_ldc2 (2 : Int64) kcX11_173 dX11_point_41 ?_
    refine hj_aload_n 0 dX11_point_44 rfl ?_
    refine hj_getR flX11_58 dX11_point_45 (fun t11 _ => ?_)
    refine hj_getR flX11_165 dX11_point_48 (fun t12 _ => ?_)
    refine hj_iload_n 1 dX11_point_51 rfl ?_
    refine hj_iald dX11_point_52 (fun t13 _ => ?_)
    refine hj_i2l dX11_point_53 ?_
    refine hj_lmul dX11_point_54 ?_
    refine hj_callV (ci := 6) (M' := mX6_become) (h' := 2) (As := [.long ((t10.toInt64)), .long ((((2 : Int64)) * ((t13.toInt64))))]) mfX6_become mvX6_become ⟨_, _, rfl⟩ mlX11_175 dX11_point_55 (kX6_become G _ _ _ _) (fun _ hr => cX6_becomek hr) ⟨Nat.le_of_ble_eq_true rfl, Nat.le_of_ble_eq_true rfl⟩ ⟨Nat.le_refl _, Nat.le_refl _⟩ rfl (Nat.le_of_ble_eq_true rfl) (fun _ σ14 _ => ?_)
    refine hj_aload_n 0 dX11_point_58 rfl ?_
    refine hj_getR flX11_93 dX11_point_59 (fun t15 _ => ?_)
    refine hj_iload_n 2 dX11_point_62 rfl ?_
    refine hj_callV (ci := 6) (M' := mX6_part) (h' := 1) (As := [.int a2]) mfX6_part mvX6_part ⟨_, _, rfl⟩ mlX11_179 dX11_point_63 (kX6_part G _ _ _) (fun _ hr => cX6_partk hr) ⟨Nat.le_of_ble_eq_true rfl, Nat.le_of_ble_eq_true rfl⟩ ⟨Nat.le_refl _, Nat.le_refl _⟩ rfl (Nat.le_of_ble_eq_true rfl) (fun r17 σ16 _ => ?_)
    exact hj_lret dX11_point_66 rfl rfl (Nat.le_refl _)
  · refine hj_ldc2 (-1000000 : Int64) kcX11_168 dX11_point_8 ?_
    exact hj_lret dX11_point_11 rfl rfl (Nat.le_refl _)
theorem cX11_pointk {a0 : Nat} {a1 : Int32} {a2 : Int32} {σ : Sto} {r : Int64 × Sto} (h : fX11_point a0 a1 a2 σ = some r) : ∃ fs, hs_o σ 11 a0 = some fs := (ck_of h).1
def fX11_stands (a0 : Nat) (σ : Sto) : Option (Int32 × Sto) := ck σ 11 a0 ((gR σ 11 a0 8).bind fun t1 => ((gR σ 11 a0 3).bind fun t2 => ((gR σ 11 a0 6).bind fun t3 => (cb (fX0_allStand t1 t2 t3 σ) fun r5 σ4 => (rZ r5 σ4)))))
set_option maxHeartbeats 2000000 in
theorem kX11_stands (G : GP) (a0 : Nat) (σ : Sto) : Me G mX11_stands 6 0 0 jI [.ref a0] σ (fX11_stands a0 σ) := by
  refine hs_me (lv := [(0, .ref a0)]) (plainFor_of_name (by decide +kernel)) (Nat.le_of_ble_eq_true rfl) rfl ?_
  unfold fX11_stands
  refine hj_ck ?_
  refine hj_aload_n 0 dX11_stands_0 rfl ?_
  refine hj_getR flX11_58 dX11_stands_1 (fun t1 _ => ?_)
  refine hj_aload_n 0 dX11_stands_4 rfl ?_
  refine hj_getR flX11_27 dX11_stands_5 (fun t2 _ => ?_)
  refine hj_aload_n 0 dX11_stands_8 rfl ?_
  refine hj_getR flX11_46 dX11_stands_9 (fun t3 _ => ?_)
  refine hj_callV (ci := 0) (M' := mX0_allStand) (h' := 5) (As := [.ref t2, .ref t3]) mfX0_allStand mvX0_allStand ⟨_, _, rfl⟩ mlX11_183 dX11_stands_12 (kX0_allStand G _ _ _ _) (fun _ hr => cX0_allStandk hr) ⟨Nat.le_of_ble_eq_true rfl, Nat.le_of_ble_eq_true rfl⟩ ⟨Nat.le_refl _, Nat.le_refl _⟩ rfl (Nat.le_of_ble_eq_true rfl) (fun r5 σ4 _ => ?_)
  exact hj_rZ dX11_stands_15 rfl rfl (Nat.le_refl _)
theorem cX11_standsk {a0 : Nat} {σ : Sto} {r : Int32 × Sto} (h : fX11_stands a0 σ = some r) : ∃ fs, hs_o σ 11 a0 = some fs := (ck_of h).1
def fX11_tips_b11 (x0 : Nat) (x1 : Int32) (σ : Sto) : Option (Int32 × Sto) := ((gR σ 11 x0 8).bind fun t1 => ((gR σ 11 x0 3).bind fun t2 => ((gR σ 11 x0 6).bind fun t3 => (cb (fX0_weigh t1 t2 t3 σ) fun _ σ4 => ((gR σ4 11 x0 8).bind fun t5 => (cb (fX0_lowestFalling t5 σ4) fun r7 σ6 => (if r7 = (-1 : Int32) then (some ((-2 : Int32), σ6)) else (if x1 = 0 then (some (r7, σ6)) else ((gR σ6 11 x0 8).bind fun t8 => (cb (fX0_fallsRight t8 r7 σ6) fun r10 σ9 => (if r10 = 0 then (some ((0 : Int32), σ9)) else (some ((1 : Int32), σ9)))))))))))))
set_option maxHeartbeats 2000000 in
theorem sX11_tips_b11 {G : GP} {n0 : Nat} : ∀ (x0 : Nat) (x1 : Int32) (σ : Sto), Sim G mX11_tips 5 0 0 n0 jI 0 0 11 [(0, .ref x0), (1, .int x1)] [] σ (fX11_tips_b11 x0 x1 σ) := by
  intro x0 x1 σ
  unfold fX11_tips_b11
  refine hj_aload_n 0 dX11_tips_11 rfl ?_
  refine hj_getR flX11_58 dX11_tips_12 (fun t1 _ => ?_)
  refine hj_aload_n 0 dX11_tips_15 rfl ?_
  refine hj_getR flX11_27 dX11_tips_16 (fun t2 _ => ?_)
  refine hj_aload_n 0 dX11_tips_19 rfl ?_
  refine hj_getR flX11_46 dX11_tips_20 (fun t3 _ => ?_)
  refine hj_callV (ci := 0) (M' := mX0_weigh) (h' := 4) (As := [.ref t2, .ref t3]) mfX0_weigh mvX0_weigh ⟨_, _, rfl⟩ mlX11_162 dX11_tips_23 (kX0_weigh G _ _ _ _) (fun _ hr => cX0_weighk hr) ⟨Nat.le_of_ble_eq_true rfl, Nat.le_of_ble_eq_true rfl⟩ ⟨Nat.le_refl _, Nat.le_refl _⟩ rfl (Nat.le_of_ble_eq_true rfl) (fun _ σ4 _ => ?_)
  refine hj_aload_n 0 dX11_tips_26 rfl ?_
  refine hj_getR flX11_58 dX11_tips_27 (fun t5 _ => ?_)
  refine hj_callV (ci := 0) (M' := mX0_lowestFalling) (h' := 4) (As := []) mfX0_lowestFalling mvX0_lowestFalling ⟨_, _, rfl⟩ mlX11_187 dX11_tips_30 (kX0_lowestFalling G _ _) (fun _ hr => cX0_lowestFallingk hr) ⟨Nat.le_of_ble_eq_true rfl, Nat.le_of_ble_eq_true rfl⟩ ⟨Nat.le_refl _, Nat.le_refl _⟩ rfl (Nat.le_of_ble_eq_true rfl) (fun r7 σ6 _ => ?_)
  refine hj_istore_n (lv' := [(0, .ref x0), (1, .int x1), (2, .int r7)]) dX11_tips_33 (by decide) [1, 2, 0] rfl ?_
  refine hj_iload_n 2 dX11_tips_34 rfl ?_
  refine hj_iconst (-1 : Int32) dX11_tips_35 (by decide) ?_
  refine hj_icmp_ne 42 dX11_tips_36 (by decide) (fun _ => ?_) (fun _ => ?_)
  · refine hj_iload_n 1 dX11_tips_42 rfl ?_
    refine hj_if_ne 48 dX11_tips_43 (by decide) (fun _ => ?_) (fun _ => ?_)
    · refine hj_aload_n 0 dX11_tips_48 rfl ?_
      refine hj_getR flX11_58 dX11_tips_49 (fun t8 _ => ?_)
      refine hj_iload_n 2 dX11_tips_52 rfl ?_
      refine hj_callV (ci := 0) (M' := mX0_fallsRight) (h' := 3) (As := [.int r7]) mfX0_fallsRight mvX0_fallsRight ⟨_, _, rfl⟩ mlX11_191 dX11_tips_53 (kX0_fallsRight G _ _ _) (fun _ hr => cX0_fallsRightk hr) ⟨Nat.le_of_ble_eq_true rfl, Nat.le_of_ble_eq_true rfl⟩ ⟨Nat.le_refl _, Nat.le_refl _⟩ rfl (Nat.le_of_ble_eq_true rfl) (fun r10 σ9 _ => ?_)
      refine hj_if_eq 63 dX11_tips_56 (by decide) (fun _ => ?_) (fun _ => ?_)
      · refine hj_iconst (0 : Int32) dX11_tips_63 (by decide) ?_
        exact hj_iret dX11_tips_64 rfl rfl (Nat.le_refl _)
      · refine hj_iconst (1 : Int32) dX11_tips_59 (by decide) ?_
        refine hj_goto 64 dX11_tips_60 (by decide) ?_
        exact hj_iret dX11_tips_64 rfl rfl (Nat.le_refl _)
    · refine hj_iload_n 2 dX11_tips_46 rfl ?_
      exact hj_iret dX11_tips_47 rfl rfl (Nat.le_refl _)
  · refine hj_bipush (-2 : Int32) dX11_tips_39 (by decide) ?_
    exact hj_iret dX11_tips_41 rfl rfl (Nat.le_refl _)
def fX11_tips (a0 : Nat) (a1 : Int32) (σ : Sto) : Option (Int32 × Sto) := ck σ 11 a0 (if a1 = 0 then (fX11_tips_b11 a0 a1 σ) else (if a1 = (1 : Int32) then (fX11_tips_b11 a0 a1 σ) else (some ((-1 : Int32), σ))))
set_option maxHeartbeats 2000000 in
theorem kX11_tips (G : GP) (a0 : Nat) (a1 : Int32) (σ : Sto) : Me G mX11_tips 5 0 0 jI [.ref a0, .int a1] σ (fX11_tips a0 a1 σ) := by
  refine hs_me (lv := [(0, .ref a0), (1, .int a1)]) (plainFor_of_name (by decide +kernel)) (Nat.le_of_ble_eq_true rfl) rfl ?_
  unfold fX11_tips
  refine hj_ck ?_
  refine hj_iload_n 1 dX11_tips_0 rfl ?_
  refine hj_if_eq 11 dX11_tips_1 (by decide) (fun _ => ?_) (fun _ => ?_)
  · refine hj_loc (lv' := [(0, .ref a0), (1, .int a1)]) [0, 1] rfl ?_
    exact sX11_tips_b11 _ _ _
  · refine hj_iload_n 1 dX11_tips_4 rfl ?_
    refine hj_iconst (1 : Int32) dX11_tips_5 (by decide) ?_
    refine hj_icmp_eq 11 dX11_tips_6 (by decide) (fun _ => ?_) (fun _ => ?_)
    · refine hj_loc (lv' := [(0, .ref a0), (1, .int a1)]) [0, 1] rfl ?_
      exact sX11_tips_b11 _ _ _
    · refine hj_iconst (-1 : Int32) dX11_tips_9 (by decide) ?_
      exact hj_iret dX11_tips_10 rfl rfl (Nat.le_refl _)
theorem cX11_tipsk {a0 : Nat} {a1 : Int32} {σ : Sto} {r : Int32 × Sto} (h : fX11_tips a0 a1 σ = some r) : ∃ fs, hs_o σ 11 a0 = some fs := (ck_of h).1
def fX11_farthestOut_b4 : Nat → Nat → Nat → Int32 → Int32 → Sto → Option (Int32 × Sto)
  | 0, _, _, _, _, _ => none
  | n + 1, x0, x1, x2, x3, σ => ((gI σ 5 x1 0).bind fun t1 => (if t1 ≤ x3 then (some (x2, σ)) else ((gR σ 5 x1 2).bind fun t2 => ((aI σ 2 t2 x3).bind fun t3 => ((gR σ 11 x0 3).bind fun t4 => ((gR σ 10 t4 2).bind fun t5 => ((gR σ 5 x1 1).bind fun t6 => ((aI σ 2 t6 x3).bind fun t7 => ((aI σ 2 t5 t7).bind fun t8 => (cb (fJ9_max_7cf53 x2 ((t3 + t8)) σ) fun r10 σ9 => (fX11_farthestOut_b4 n x0 x1 r10 (x3 + (1 : Int32)) σ9)))))))))))
set_option maxHeartbeats 2000000 in
theorem sX11_farthestOut_b4 {G : GP} {n0 : Nat} : ∀ (n : Nat) (x0 : Nat) (x1 : Nat) (x2 : Int32) (x3 : Int32) (σ : Sto), Sim G mX11_farthestOut 2 0 0 n0 jI 0 0 4 [(0, .ref x0), (1, .ref x1), (2, .int x2), (3, .int x3)] [] σ (fX11_farthestOut_b4 n x0 x1 x2 x3 σ) := by
  intro n
  induction n with
  | zero => intros; rw [fX11_farthestOut_b4]; exact hj_none
  | succ n ih =>
    intro x0 x1 x2 x3 σ
    rw [fX11_farthestOut_b4]
    refine hj_iload_n 3 dX11_farthestOut_4 rfl ?_
    refine hj_aload_n 1 dX11_farthestOut_5 rfl ?_
    refine hj_getI flX11_210 dX11_farthestOut_6 (fun t1 _ => ?_)
    refine hj_icmp_ge 44 dX11_farthestOut_9 (by decide) (fun _ => ?_) (fun _ => ?_)
    · refine hj_iload_n 2 dX11_farthestOut_44 rfl ?_
      exact hj_iret dX11_farthestOut_45 rfl rfl (Nat.le_refl _)
    · refine hj_iload_n 2 dX11_farthestOut_12 rfl ?_
      refine hj_aload_n 1 dX11_farthestOut_13 rfl ?_
      refine hj_getR flX11_149 dX11_farthestOut_14 (fun t2 _ => ?_)
      refine hj_iload_n 3 dX11_farthestOut_17 rfl ?_
      refine hj_iald dX11_farthestOut_18 (fun t3 _ => ?_)
      refine hj_aload_n 0 dX11_farthestOut_19 rfl ?_
      refine hj_getR flX11_27 dX11_farthestOut_20 (fun t4 _ => ?_)
      refine hj_getR flX11_139 dX11_farthestOut_23 (fun t5 _ => ?_)
      refine hj_aload_n 1 dX11_farthestOut_26 rfl ?_
      refine hj_getR flX11_159 dX11_farthestOut_27 (fun t6 _ => ?_)
      refine hj_iload_n 3 dX11_farthestOut_30 rfl ?_
      refine hj_iald dX11_farthestOut_31 (fun t7 _ => ?_)
      refine hj_iald dX11_farthestOut_32 (fun t8 _ => ?_)
      refine hj_iadd dX11_farthestOut_33 ?_
      refine hj_callS (M' := mJ9_max_7cf53) (h' := 1) (As := [.int x2, .int ((t3 + t8))]) mfJ9_max_7cf53 msJ9_max_7cf53 mlX11_309 dX11_farthestOut_34 (kJ9_max_7cf53 G _ _ _) ⟨Nat.le_of_ble_eq_true rfl, Nat.le_of_ble_eq_true rfl⟩ ⟨Nat.le_refl _, Nat.le_refl _⟩ rfl (Nat.le_of_ble_eq_true rfl) (fun r10 σ9 _ => ?_)
      refine hj_istore_n (lv' := [(0, .ref x0), (1, .ref x1), (2, .int r10), (3, .int x3)]) dX11_farthestOut_37 (by decide) [1, 2, 0, 3] rfl ?_
      refine hj_iinc (lv' := [(0, .ref x0), (1, .ref x1), (2, .int r10), (3, .int (x3 + (1 : Int32)))]) 3 (1 : Int32) dX11_farthestOut_38 rfl (by decide) (by decide) [1, 2, 3, 0] rfl ?_
      refine hj_goto 4 dX11_farthestOut_41 (by decide) ?_
      refine hj_loc (lv' := [(0, .ref x0), (1, .ref x1), (2, .int r10), (3, .int (x3 + (1 : Int32)))]) [0, 1, 2, 3] rfl ?_
      exact ih _ _ _ _ _
def fX11_farthestOut (a0 : Nat) (a1 : Nat) (σ : Sto) : Option (Int32 × Sto) := ck σ 11 a0 (fX11_farthestOut_b4 FU a0 a1 ((0 : Int32)) ((0 : Int32)) σ)
set_option maxHeartbeats 2000000 in
theorem kX11_farthestOut (G : GP) (a0 : Nat) (a1 : Nat) (σ : Sto) : Me G mX11_farthestOut 2 0 0 jI [.ref a0, .ref a1] σ (fX11_farthestOut a0 a1 σ) := by
  refine hs_me (lv := [(0, .ref a0), (1, .ref a1)]) (plainFor_of_name (by decide +kernel)) (Nat.le_of_ble_eq_true rfl) rfl ?_
  unfold fX11_farthestOut
  refine hj_ck ?_
  refine hj_iconst (0 : Int32) dX11_farthestOut_0 (by decide) ?_
  refine hj_istore_n (lv' := [(0, .ref a0), (1, .ref a1), (2, .int (0 : Int32))]) dX11_farthestOut_1 (by decide) [1, 2, 0] rfl ?_
  refine hj_iconst (0 : Int32) dX11_farthestOut_2 (by decide) ?_
  refine hj_istore_n (lv' := [(0, .ref a0), (1, .ref a1), (2, .int (0 : Int32)), (3, .int (0 : Int32))]) dX11_farthestOut_3 (by decide) [1, 2, 3, 0] rfl ?_
  refine hj_loc (lv' := [(0, .ref a0), (1, .ref a1), (2, .int (0 : Int32)), (3, .int (0 : Int32))]) [0, 1, 2, 3] rfl ?_
  exact sX11_farthestOut_b4 _ _ _ _ _ _
theorem cX11_farthestOutk {a0 : Nat} {a1 : Nat} {σ : Sto} {r : Int32 × Sto} (h : fX11_farthestOut a0 a1 σ = some r) : ∃ fs, hs_o σ 11 a0 = some fs := (ck_of h).1
def fX11_over (a0 : Nat) (σ : Sto) : Option (Int32 × Sto) := ck σ 11 a0 ((gR σ 11 a0 6).bind fun t1 => (cb (fX11_farthestOut a0 t1 σ) fun r3 σ2 => (some (r3, σ2))))
set_option maxHeartbeats 2000000 in
theorem kX11_over (G : GP) (a0 : Nat) (σ : Sto) : Me G mX11_over 3 0 0 jI [.ref a0] σ (fX11_over a0 σ) := by
  refine hs_me (lv := [(0, .ref a0)]) (plainFor_of_name (by decide +kernel)) (Nat.le_of_ble_eq_true rfl) rfl ?_
  unfold fX11_over
  refine hj_ck ?_
  refine hj_aload_n 0 dX11_over_0 rfl ?_
  refine hj_aload_n 0 dX11_over_1 rfl ?_
  refine hj_getR flX11_46 dX11_over_2 (fun t1 _ => ?_)
  refine hj_callV (ci := 11) (M' := mX11_farthestOut) (h' := 2) (As := [.ref t1]) mfX11_farthestOut mvX11_farthestOut ⟨_, _, rfl⟩ mlX11_194 dX11_over_5 (kX11_farthestOut G _ _ _) (fun _ hr => cX11_farthestOutk hr) ⟨Nat.le_of_ble_eq_true rfl, Nat.le_of_ble_eq_true rfl⟩ ⟨Nat.le_refl _, Nat.le_refl _⟩ rfl (Nat.le_of_ble_eq_true rfl) (fun r3 σ2 _ => ?_)
  exact hj_iret dX11_over_8 rfl rfl (Nat.le_refl _)
theorem cX11_overk {a0 : Nat} {σ : Sto} {r : Int32 × Sto} (h : fX11_over a0 σ = some r) : ∃ fs, hs_o σ 11 a0 = some fs := (ck_of h).1
def fX11_isPlace (a0 : Int64) (σ : Sto) : Option (Int32 × Sto) := (if (lg_cmp a0 ((-999 : Int64))) < 0 then (some ((0 : Int32), σ)) else (if 0 < (lg_cmp a0 ((999 : Int64))) then (some ((0 : Int32), σ)) else (some ((1 : Int32), σ))))
set_option maxHeartbeats 2000000 in
theorem kX11_isPlace (G : GP) (a0 : Int64) (σ : Sto) : Me G mX11_isPlace 1 0 0 jI [.long a0] σ (fX11_isPlace a0 σ) := by
  refine hs_me (lv := [(0, .long a0)]) (plainFor_of_name (by decide +kernel)) (Nat.le_of_ble_eq_true rfl) rfl ?_
  unfold fX11_isPlace
  refine hj_lload_n 0 dX11_isPlace_0 rfl ?_
  refine hj_ldc2 (-999 : Int64) kcX11_305 dX11_isPlace_1 ?_
  refine hj_lcmp dX11_isPlace_4 ?_
  refine hj_if_lt 20 dX11_isPlace_5 (by decide) (fun _ => ?_) (fun _ => ?_)
  · refine hj_iconst (0 : Int32) dX11_isPlace_20 (by decide) ?_
    exact hj_zret dX11_isPlace_21 rfl (by decide) rfl (Nat.le_refl _)
  · refine hj_lload_n 0 dX11_isPlace_8 rfl ?_
    refine hj_ldc2 (999 : Int64) kcX11_307 dX11_isPlace_9 ?_
    refine hj_lcmp dX11_isPlace_12 ?_
    refine hj_if_gt 20 dX11_isPlace_13 (by decide) (fun _ => ?_) (fun _ => ?_)
    · refine hj_iconst (0 : Int32) dX11_isPlace_20 (by decide) ?_
      exact hj_zret dX11_isPlace_21 rfl (by decide) rfl (Nat.le_refl _)
    · refine hj_iconst (1 : Int32) dX11_isPlace_16 (by decide) ?_
      refine hj_goto 21 dX11_isPlace_17 (by decide) ?_
      exact hj_zret dX11_isPlace_21 rfl (by decide) rfl (Nat.le_refl _)
def fX11_lay (a0 : Nat) (a1 : Int32) (a2 : Int32) (a3 : Int32) (σ : Sto) : Option (Int32 × Sto) := ck σ 11 a0 (cb (fX11_isBook a0 a1 σ) fun r2 σ1 => (if r2 = 0 then (some ((-1 : Int32), σ1)) else ((gR σ1 11 a0 6).bind fun t3 => (cb (fX5_levelOf t3 a1 σ1) fun r5 σ4 => (if r5 = (-1 : Int32) then (cb (fX11_isPlace ((a2.toInt64)) σ4) fun r7 σ6 => (if r7 = 0 then (some ((-1 : Int32), σ6)) else ((gR σ6 11 a0 6).bind fun t8 => (cb (fX5_put t8 a1 a2 a3 σ6) fun _ σ9 => ((gR σ9 11 a0 9).bind fun t10 => (cb (fX4_note t10 ((1 : Int32)) a1 a2 a3 σ9) fun _ σ11 => ((gR σ11 11 a0 6).bind fun t12 => ((gI σ11 5 t12 0).bind fun t13 => (some ((t13 - ((1 : Int32))), σ11)))))))))) else (some ((-1 : Int32), σ4)))))))
set_option maxHeartbeats 2000000 in
theorem kX11_lay (G : GP) (a0 : Nat) (a1 : Int32) (a2 : Int32) (a3 : Int32) (σ : Sto) : Me G mX11_lay 3 0 0 jI [.ref a0, .int a1, .int a2, .int a3] σ (fX11_lay a0 a1 a2 a3 σ) := by
  refine hs_me (lv := [(0, .ref a0), (1, .int a1), (2, .int a2), (3, .int a3)]) (plainFor_of_name (by decide +kernel)) (Nat.le_of_ble_eq_true rfl) rfl ?_
  unfold fX11_lay
  refine hj_ck ?_
  refine hj_aload_n 0 dX11_lay_0 rfl ?_
  refine hj_iload_n 1 dX11_lay_1 rfl ?_
  refine hj_callV (ci := 11) (M' := mX11_isBook) (h' := 1) (As := [.int a1]) mfX11_isBook mvX11_isBook ⟨_, _, rfl⟩ mlX11_131 dX11_lay_2 (kX11_isBook G _ _ _) (fun _ hr => cX11_isBookk hr) ⟨Nat.le_of_ble_eq_true rfl, Nat.le_of_ble_eq_true rfl⟩ ⟨Nat.le_refl _, Nat.le_refl _⟩ rfl (Nat.le_of_ble_eq_true rfl) (fun r2 σ1 _ => ?_)
  refine hj_if_eq 28 dX11_lay_5 (by decide) (fun _ => ?_) (fun _ => ?_)
  · refine hj_iconst (-1 : Int32) dX11_lay_28 (by decide) ?_
    exact hj_iret dX11_lay_29 rfl rfl (Nat.le_refl _)
  · refine hj_aload_n 0 dX11_lay_8 rfl ?_
    refine hj_getR flX11_46 dX11_lay_9 (fun t3 _ => ?_)
    refine hj_iload_n 1 dX11_lay_12 rfl ?_
    refine hj_callV (ci := 5) (M' := mX5_levelOf) (h' := 1) (As := [.int a1]) mfX5_levelOf mvX5_levelOf ⟨_, _, rfl⟩ mlX11_135 dX11_lay_13 (kX5_levelOf G _ _ _) (fun _ hr => cX5_levelOfk hr) ⟨Nat.le_of_ble_eq_true rfl, Nat.le_of_ble_eq_true rfl⟩ ⟨Nat.le_refl _, Nat.le_refl _⟩ rfl (Nat.le_of_ble_eq_true rfl) (fun r5 σ4 _ => ?_)
    refine hj_iconst (-1 : Int32) dX11_lay_16 (by decide) ?_
    refine hj_icmp_ne 28 dX11_lay_17 (by decide) (fun _ => ?_) (fun _ => ?_)
    · refine hj_iconst (-1 : Int32) dX11_lay_28 (by decide) ?_
      exact hj_iret dX11_lay_29 rfl rfl (Nat.le_refl _)
    · refine hj_iload_n 2 dX11_lay_20 rfl ?_
      refine hj_i2l dX11_lay_21 ?_
      refine hj_callS (M' := mX11_isPlace) (h' := 1) (As := [.long ((a2.toInt64))]) mfX11_isPlace msX11_isPlace mlX11_198 dX11_lay_22 (kX11_isPlace G _ _) ⟨Nat.le_of_ble_eq_true rfl, Nat.le_of_ble_eq_true rfl⟩ ⟨Nat.le_refl _, Nat.le_refl _⟩ rfl (Nat.le_of_ble_eq_true rfl) (fun r7 σ6 _ => ?_)
      refine hj_if_ne 30 dX11_lay_25 (by decide) (fun _ => ?_) (fun _ => ?_)
      · refine hj_aload_n 0 dX11_lay_30 rfl ?_
        refine hj_getR flX11_46 dX11_lay_31 (fun t8 _ => ?_)
        refine hj_iload_n 1 dX11_lay_34 rfl ?_
        refine hj_iload_n 2 dX11_lay_35 rfl ?_
        refine hj_iload_n 3 dX11_lay_36 rfl ?_
        refine hj_callV (ci := 5) (M' := mX5_put) (h' := 1) (As := [.int a1, .int a2, .int a3]) mfX5_put mvX5_put ⟨_, _, rfl⟩ mlX11_202 dX11_lay_37 (kX5_put G _ _ _ _ _) (fun _ hr => cX5_putk hr) ⟨Nat.le_of_ble_eq_true rfl, Nat.le_of_ble_eq_true rfl⟩ ⟨Nat.le_refl _, Nat.le_refl _⟩ rfl (Nat.le_of_ble_eq_true rfl) (fun _ σ9 _ => ?_)
        refine hj_aload_n 0 dX11_lay_40 rfl ?_
        refine hj_getR flX11_65 dX11_lay_41 (fun t10 _ => ?_)
        refine hj_iconst (1 : Int32) dX11_lay_44 (by decide) ?_
        refine hj_iload_n 1 dX11_lay_45 rfl ?_
        refine hj_iload_n 2 dX11_lay_46 rfl ?_
        refine hj_iload_n 3 dX11_lay_47 rfl ?_
        refine hj_callV (ci := 4) (M' := mX4_note) (h' := 2) (As := [.int ((1 : Int32)), .int a1, .int a2, .int a3]) mfX4_note mvX4_note ⟨_, _, rfl⟩ mlX11_206 dX11_lay_48 (kX4_note G _ _ _ _ _ _) (fun _ hr => cX4_notek hr) ⟨Nat.le_of_ble_eq_true rfl, Nat.le_of_ble_eq_true rfl⟩ ⟨Nat.le_refl _, Nat.le_refl _⟩ rfl (Nat.le_of_ble_eq_true rfl) (fun _ σ11 _ => ?_)
        refine hj_aload_n 0 dX11_lay_51 rfl ?_
        refine hj_getR flX11_46 dX11_lay_52 (fun t12 _ => ?_)
        refine hj_getI flX11_210 dX11_lay_55 (fun t13 _ => ?_)
        refine hj_iconst (1 : Int32) dX11_lay_58 (by decide) ?_
        refine hj_isub dX11_lay_59 ?_
        exact hj_iret dX11_lay_60 rfl rfl (Nat.le_refl _)
      · refine hj_iconst (-1 : Int32) dX11_lay_28 (by decide) ?_
        exact hj_iret dX11_lay_29 rfl rfl (Nat.le_refl _)
theorem cX11_layk {a0 : Nat} {a1 : Int32} {a2 : Int32} {a3 : Int32} {σ : Sto} {r : Int32 × Sto} (h : fX11_lay a0 a1 a2 a3 σ = some r) : ∃ fs, hs_o σ 11 a0 = some fs := (ck_of h).1
def fX11_lift (a0 : Nat) (σ : Sto) : Option (Int32 × Sto) := ck σ 11 a0 ((gR σ 11 a0 6).bind fun t1 => ((gI σ 5 t1 0).bind fun t2 => (lt ((t2 - ((1 : Int32)))) fun v3 => (cb (fX11_isLevel a0 v3 σ) fun r5 σ4 => (if r5 = 0 then (some ((-1 : Int32), σ4)) else ((gR σ4 11 a0 6).bind fun t6 => ((gR σ4 5 t6 1).bind fun t7 => ((aI σ4 2 t7 v3).bind fun t8 => ((gR σ4 11 a0 9).bind fun t9 => ((gR σ4 11 a0 6).bind fun t10 => ((gR σ4 5 t10 2).bind fun t11 => ((aI σ4 2 t11 v3).bind fun t12 => ((gR σ4 11 a0 6).bind fun t13 => ((gR σ4 5 t13 3).bind fun t14 => ((aI σ4 4 t14 v3).bind fun t15 => (cb (fX4_note t9 ((2 : Int32)) t8 t12 t15 σ4) fun _ σ16 => ((gR σ16 11 a0 6).bind fun t17 => (cb (fX5_drop t17 σ16) fun _ σ18 => (some (t8, σ18))))))))))))))))))))
set_option maxHeartbeats 2000000 in
theorem kX11_lift (G : GP) (a0 : Nat) (σ : Sto) : Me G mX11_lift 3 0 0 jI [.ref a0] σ (fX11_lift a0 σ) := by
  refine hs_me (lv := [(0, .ref a0)]) (plainFor_of_name (by decide +kernel)) (Nat.le_of_ble_eq_true rfl) rfl ?_
  unfold fX11_lift
  refine hj_ck ?_
  refine hj_aload_n 0 dX11_lift_0 rfl ?_
  refine hj_getR flX11_46 dX11_lift_1 (fun t1 _ => ?_)
  refine hj_getI flX11_210 dX11_lift_4 (fun t2 _ => ?_)
  refine hj_iconst (1 : Int32) dX11_lift_7 (by decide) ?_
  refine hj_isub dX11_lift_8 ?_
  refine hj_ltI (fun v3 _ => ?_)
  refine hj_istore_n (lv' := [(0, .ref a0), (1, .int v3)]) dX11_lift_9 (by decide) [1, 0] rfl ?_
  refine hj_aload_n 0 dX11_lift_10 rfl ?_
  refine hj_iload_n 1 dX11_lift_11 rfl ?_
  refine hj_callV (ci := 11) (M' := mX11_isLevel) (h' := 1) (As := [.int v3]) mfX11_isLevel mvX11_isLevel ⟨_, _, rfl⟩ mlX11_156 dX11_lift_12 (kX11_isLevel G _ _ _) (fun _ hr => cX11_isLevelk hr) ⟨Nat.le_of_ble_eq_true rfl, Nat.le_of_ble_eq_true rfl⟩ ⟨Nat.le_refl _, Nat.le_refl _⟩ rfl (Nat.le_of_ble_eq_true rfl) (fun r5 σ4 _ => ?_)
  refine hj_if_ne 20 dX11_lift_15 (by decide) (fun _ => ?_) (fun _ => ?_)
  · refine hj_aload_n 0 dX11_lift_20 rfl ?_
    refine hj_getR flX11_46 dX11_lift_21 (fun t6 _ => ?_)
    refine hj_getR flX11_159 dX11_lift_24 (fun t7 _ => ?_)
    refine hj_iload_n 1 dX11_lift_27 rfl ?_
    refine hj_iald dX11_lift_28 (fun t8 _ => ?_)
    refine hj_istore_n (lv' := [(0, .ref a0), (1, .int v3), (2, .int t8)]) dX11_lift_29 (by decide) [1, 2, 0] rfl ?_
    refine hj_aload_n 0 dX11_lift_30 rfl ?_
    refine hj_getR flX11_65 dX11_lift_31 (fun t9 _ => ?_)
    refine hj_iconst (2 : Int32) dX11_lift_34 (by decide) ?_
    refine hj_iload_n 2 dX11_lift_35 rfl ?_
    refine hj_aload_n 0 dX11_lift_36 rfl ?_
    refine hj_getR flX11_46 dX11_lift_37 (fun t10 _ => ?_)
    refine hj_getR flX11_149 dX11_lift_40 (fun t11 _ => ?_)
    refine hj_iload_n 1 dX11_lift_43 rfl ?_
    refine hj_iald dX11_lift_44 (fun t12 _ => ?_)
    refine hj_aload_n 0 dX11_lift_45 rfl ?_
    refine hj_getR flX11_46 dX11_lift_46 (fun t13 _ => ?_)
    refine hj_getR flX11_152 dX11_lift_49 (fun t14 _ => ?_)
    refine hj_iload_n 1 dX11_lift_52 rfl ?_
    refine hj_zald dX11_lift_53 (fun t15 _ => ?_)
    refine hj_callV (ci := 4) (M' := mX4_note) (h' := 2) (As := [.int ((2 : Int32)), .int t8, .int t12, .int t15]) mfX4_note mvX4_note ⟨_, _, rfl⟩ mlX11_206 dX11_lift_54 (kX4_note G _ _ _ _ _ _) (fun _ hr => cX4_notek hr) ⟨Nat.le_of_ble_eq_true rfl, Nat.le_of_ble_eq_true rfl⟩ ⟨Nat.le_refl _, Nat.le_refl _⟩ rfl (Nat.le_of_ble_eq_true rfl) (fun _ σ16 _ => ?_)
    refine hj_aload_n 0 dX11_lift_57 rfl ?_
    refine hj_getR flX11_46 dX11_lift_58 (fun t17 _ => ?_)
    refine hj_callV (ci := 5) (M' := mX5_drop) (h' := 1) (As := []) mfX5_drop mvX5_drop ⟨_, _, rfl⟩ mlX11_211 dX11_lift_61 (kX5_drop G _ _) (fun _ hr => cX5_dropk hr) ⟨Nat.le_of_ble_eq_true rfl, Nat.le_of_ble_eq_true rfl⟩ ⟨Nat.le_refl _, Nat.le_refl _⟩ rfl (Nat.le_of_ble_eq_true rfl) (fun _ σ18 _ => ?_)
    refine hj_iload_n 2 dX11_lift_64 rfl ?_
    exact hj_iret dX11_lift_65 rfl rfl (Nat.le_refl _)
  · refine hj_iconst (-1 : Int32) dX11_lift_18 (by decide) ?_
    exact hj_iret dX11_lift_19 rfl rfl (Nat.le_refl _)
theorem cX11_liftk {a0 : Nat} {σ : Sto} {r : Int32 × Sto} (h : fX11_lift a0 σ = some r) : ∃ fs, hs_o σ 11 a0 = some fs := (ck_of h).1
def fX11_move_b50 (x0 : Nat) (x1 : Int32) (x2 : Int32) (σ : Sto) : Option (Int32 × Sto) := ((gR σ 11 x0 6).bind fun t1 => (cb (fX5_shift t1 x1 x2 σ) fun _ σ2 => ((gR σ2 11 x0 9).bind fun t3 => (cb (fX4_note t3 ((3 : Int32)) x1 x2 ((0 : Int32)) σ2) fun _ σ4 => (some ((1 : Int32), σ4))))))
set_option maxHeartbeats 2000000 in
theorem sX11_move_b50 {G : GP} {n0 : Nat} : ∀ (x0 : Nat) (x1 : Int32) (x2 : Int32) (σ : Sto), Sim G mX11_move 3 0 0 n0 jI 0 0 50 [(0, .ref x0), (1, .int x1), (2, .int x2)] [] σ (fX11_move_b50 x0 x1 x2 σ) := by
  intro x0 x1 x2 σ
  unfold fX11_move_b50
  refine hj_aload_n 0 dX11_move_50 rfl ?_
  refine hj_getR flX11_46 dX11_move_51 (fun t1 _ => ?_)
  refine hj_iload_n 1 dX11_move_54 rfl ?_
  refine hj_iload_n 2 dX11_move_55 rfl ?_
  refine hj_callV (ci := 5) (M' := mX5_shift) (h' := 2) (As := [.int x1, .int x2]) mfX5_shift mvX5_shift ⟨_, _, rfl⟩ mlX11_214 dX11_move_56 (kX5_shift G _ _ _ _) (fun _ hr => cX5_shiftk hr) ⟨Nat.le_of_ble_eq_true rfl, Nat.le_of_ble_eq_true rfl⟩ ⟨Nat.le_refl _, Nat.le_refl _⟩ rfl (Nat.le_of_ble_eq_true rfl) (fun _ σ2 _ => ?_)
  refine hj_aload_n 0 dX11_move_59 rfl ?_
  refine hj_getR flX11_65 dX11_move_60 (fun t3 _ => ?_)
  refine hj_iconst (3 : Int32) dX11_move_63 (by decide) ?_
  refine hj_iload_n 1 dX11_move_64 rfl ?_
  refine hj_iload_n 2 dX11_move_65 rfl ?_
  refine hj_iconst (0 : Int32) dX11_move_66 (by decide) ?_
  refine hj_callV (ci := 4) (M' := mX4_note) (h' := 2) (As := [.int ((3 : Int32)), .int x1, .int x2, .int ((0 : Int32))]) mfX4_note mvX4_note ⟨_, _, rfl⟩ mlX11_206 dX11_move_67 (kX4_note G _ _ _ _ _ _) (fun _ hr => cX4_notek hr) ⟨Nat.le_of_ble_eq_true rfl, Nat.le_of_ble_eq_true rfl⟩ ⟨Nat.le_refl _, Nat.le_refl _⟩ rfl (Nat.le_of_ble_eq_true rfl) (fun _ σ4 _ => ?_)
  refine hj_iconst (1 : Int32) dX11_move_70 (by decide) ?_
  exact hj_zret dX11_move_71 rfl (by decide) rfl (Nat.le_refl _)
def fX11_move_b12 : Nat → Nat → Int32 → Int32 → Int32 → Sto → Option (Int32 × Sto)
  | 0, _, _, _, _, _ => none
  | n + 1, x0, x1, x2, x3, σ => ((gR σ 11 x0 6).bind fun t5 => ((gI σ 5 t5 0).bind fun t6 => (if t6 ≤ x3 then (fX11_move_b50 x0 x1 x2 σ) else ((gR σ 11 x0 6).bind fun t7 => ((gR σ 5 t7 2).bind fun t8 => ((aI σ 2 t8 x3).bind fun t9 => (cb (fX11_isPlace ((((t9.toInt64)) + ((x2.toInt64)))) σ) fun r11 σ10 => (if r11 = 0 then (some ((0 : Int32), σ10)) else (fX11_move_b12 n x0 x1 x2 (x3 + (1 : Int32)) σ10)))))))))
set_option maxHeartbeats 2000000 in
theorem sX11_move_b12 {G : GP} {n0 : Nat} : ∀ (n : Nat) (x0 : Nat) (x1 : Int32) (x2 : Int32) (x3 : Int32) (σ : Sto), Sim G mX11_move 3 0 0 n0 jI 0 0 12 [(0, .ref x0), (1, .int x1), (2, .int x2), (3, .int x3)] [] σ (fX11_move_b12 n x0 x1 x2 x3 σ) := by
  intro n
  induction n with
  | zero => intros; rw [fX11_move_b12]; exact hj_none
  | succ n ih =>
    intro x0 x1 x2 x3 σ
    rw [fX11_move_b12]
    refine hj_iload_n 3 dX11_move_12 rfl ?_
    refine hj_aload_n 0 dX11_move_13 rfl ?_
    refine hj_getR flX11_46 dX11_move_14 (fun t5 _ => ?_)
    refine hj_getI flX11_210 dX11_move_17 (fun t6 _ => ?_)
    refine hj_icmp_ge 50 dX11_move_20 (by decide) (fun _ => ?_) (fun _ => ?_)
    · refine hj_loc (lv' := [(0, .ref x0), (1, .int x1), (2, .int x2)]) [0, 1, 2] rfl ?_
      exact sX11_move_b50 _ _ _ _
    · refine hj_aload_n 0 dX11_move_23 rfl ?_
      refine hj_getR flX11_46 dX11_move_24 (fun t7 _ => ?_)
      refine hj_getR flX11_149 dX11_move_27 (fun t8 _ => ?_)
      refine hj_iload_n 3 dX11_move_30 rfl ?_
      refine hj_iald dX11_move_31 (fun t9 _ => ?_)
      refine hj_i2l dX11_move_32 ?_
      refine hj_iload_n 2 dX11_move_33 rfl ?_
      refine hj_i2l dX11_move_34 ?_
      refine hj_ladd dX11_move_35 ?_
      refine hj_callS (M' := mX11_isPlace) (h' := 1) (As := [.long ((((t9.toInt64)) + ((x2.toInt64))))]) mfX11_isPlace msX11_isPlace mlX11_198 dX11_move_36 (kX11_isPlace G _ _) ⟨Nat.le_of_ble_eq_true rfl, Nat.le_of_ble_eq_true rfl⟩ ⟨Nat.le_refl _, Nat.le_refl _⟩ rfl (Nat.le_of_ble_eq_true rfl) (fun r11 σ10 _ => ?_)
      refine hj_if_ne 44 dX11_move_39 (by decide) (fun _ => ?_) (fun _ => ?_)
      · refine hj_iinc (lv' := [(0, .ref x0), (1, .int x1), (2, .int x2), (3, .int (x3 + (1 : Int32)))]) 3 (1 : Int32) dX11_move_44 rfl (by decide) (by decide) [1, 2, 3, 0] rfl ?_
        refine hj_goto 12 dX11_move_47 (by decide) ?_
        refine hj_loc (lv' := [(0, .ref x0), (1, .int x1), (2, .int x2), (3, .int (x3 + (1 : Int32)))]) [0, 1, 2, 3] rfl ?_
        exact ih _ _ _ _ _
      · refine hj_iconst (0 : Int32) dX11_move_42 (by decide) ?_
        exact hj_zret dX11_move_43 rfl (by decide) rfl (Nat.le_refl _)
def fX11_move (a0 : Nat) (a1 : Int32) (a2 : Int32) (σ : Sto) : Option (Int32 × Sto) := ck σ 11 a0 (cb (fX11_isLevel a0 a1 σ) fun r13 σ12 => (if r13 = 0 then (some ((0 : Int32), σ12)) else (fX11_move_b12 FU a0 a1 a2 a1 σ12)))
set_option maxHeartbeats 2000000 in
theorem kX11_move (G : GP) (a0 : Nat) (a1 : Int32) (a2 : Int32) (σ : Sto) : Me G mX11_move 3 0 0 jI [.ref a0, .int a1, .int a2] σ (fX11_move a0 a1 a2 σ) := by
  refine hs_me (lv := [(0, .ref a0), (1, .int a1), (2, .int a2)]) (plainFor_of_name (by decide +kernel)) (Nat.le_of_ble_eq_true rfl) rfl ?_
  unfold fX11_move
  refine hj_ck ?_
  refine hj_aload_n 0 dX11_move_0 rfl ?_
  refine hj_iload_n 1 dX11_move_1 rfl ?_
  refine hj_callV (ci := 11) (M' := mX11_isLevel) (h' := 1) (As := [.int a1]) mfX11_isLevel mvX11_isLevel ⟨_, _, rfl⟩ mlX11_156 dX11_move_2 (kX11_isLevel G _ _ _) (fun _ hr => cX11_isLevelk hr) ⟨Nat.le_of_ble_eq_true rfl, Nat.le_of_ble_eq_true rfl⟩ ⟨Nat.le_refl _, Nat.le_refl _⟩ rfl (Nat.le_of_ble_eq_true rfl) (fun r13 σ12 _ => ?_)
  refine hj_if_ne 10 dX11_move_5 (by decide) (fun _ => ?_) (fun _ => ?_)
  · refine hj_iload_n 1 dX11_move_10 rfl ?_
    refine hj_istore_n (lv' := [(0, .ref a0), (1, .int a1), (2, .int a2), (3, .int a1)]) dX11_move_11 (by decide) [1, 2, 3, 0] rfl ?_
    refine hj_loc (lv' := [(0, .ref a0), (1, .int a1), (2, .int a2), (3, .int a1)]) [0, 1, 2, 3] rfl ?_
    exact sX11_move_b12 _ _ _ _ _ _
  · refine hj_iconst (0 : Int32) dX11_move_8 (by decide) ?_
    exact hj_zret dX11_move_9 rfl (by decide) rfl (Nat.le_refl _)
theorem cX11_movek {a0 : Nat} {a1 : Int32} {a2 : Int32} {σ : Sto} {r : Int32 × Sto} (h : fX11_move a0 a1 a2 σ = some r) : ∃ fs, hs_o σ 11 a0 = some fs := (ck_of h).1
def fX11_undo (a0 : Nat) (σ : Sto) : Option (Int32 × Sto) := ck σ 11 a0 ((gR σ 11 a0 9).bind fun t1 => ((gR σ 11 a0 6).bind fun t2 => (cb (fX4_takeBack t1 t2 σ) fun r4 σ3 => (rZ r4 σ3))))
set_option maxHeartbeats 2000000 in
theorem kX11_undo (G : GP) (a0 : Nat) (σ : Sto) : Me G mX11_undo 4 0 0 jI [.ref a0] σ (fX11_undo a0 σ) := by
  refine hs_me (lv := [(0, .ref a0)]) (plainFor_of_name (by decide +kernel)) (Nat.le_of_ble_eq_true rfl) rfl ?_
  unfold fX11_undo
  refine hj_ck ?_
  refine hj_aload_n 0 dX11_undo_0 rfl ?_
  refine hj_getR flX11_65 dX11_undo_1 (fun t1 _ => ?_)
  refine hj_aload_n 0 dX11_undo_4 rfl ?_
  refine hj_getR flX11_46 dX11_undo_5 (fun t2 _ => ?_)
  refine hj_callV (ci := 4) (M' := mX4_takeBack) (h' := 3) (As := [.ref t2]) mfX4_takeBack mvX4_takeBack ⟨_, _, rfl⟩ mlX11_218 dX11_undo_8 (kX4_takeBack G _ _ _) (fun _ hr => cX4_takeBackk hr) ⟨Nat.le_of_ble_eq_true rfl, Nat.le_of_ble_eq_true rfl⟩ ⟨Nat.le_refl _, Nat.le_refl _⟩ rfl (Nat.le_of_ble_eq_true rfl) (fun r4 σ3 _ => ?_)
  exact hj_rZ dX11_undo_11 rfl rfl (Nat.le_refl _)
theorem cX11_undok {a0 : Nat} {σ : Sto} {r : Int32 × Sto} (h : fX11_undo a0 σ = some r) : ∃ fs, hs_o σ 11 a0 = some fs := (ck_of h).1
def fX11_canBear (a0 : Nat) (a1 : Int32) (a2 : Int32) (σ : Sto) : Option (Int32 × Sto) := ck σ 11 a0 (cb (fX11_isBook a0 a1 σ) fun r2 σ1 => (if r2 = 0 then (some ((0 : Int32), σ1)) else ((gR σ1 11 a0 6).bind fun t3 => (cb (fX5_levelOf t3 a1 σ1) fun r5 σ4 => (if r5 = (-1 : Int32) then (some ((0 : Int32), σ4)) else (if a2 < 0 then (some ((0 : Int32), σ4)) else ((gR σ4 11 a0 3).bind fun t6 => ((gR σ4 10 t6 2).bind fun t7 => ((aI σ4 2 t7 a1).bind fun t8 => (if a2 ≤ t8 then ((gR σ4 11 a0 8).bind fun t9 => ((gR σ4 11 a0 3).bind fun t10 => ((gR σ4 11 a0 6).bind fun t11 => (cb (fX0_weigh t9 t10 t11 σ4) fun _ σ12 => (some ((1 : Int32), σ12)))))) else (some ((0 : Int32), σ4))))))))))))
set_option maxHeartbeats 2000000 in
theorem kX11_canBear (G : GP) (a0 : Nat) (a1 : Int32) (a2 : Int32) (σ : Sto) : Me G mX11_canBear 5 0 0 jI [.ref a0, .int a1, .int a2] σ (fX11_canBear a0 a1 a2 σ) := by
  refine hs_me (lv := [(0, .ref a0), (1, .int a1), (2, .int a2)]) (plainFor_of_name (by decide +kernel)) (Nat.le_of_ble_eq_true rfl) rfl ?_
  unfold fX11_canBear
  refine hj_ck ?_
  refine hj_aload_n 0 dX11_canBear_0 rfl ?_
  refine hj_iload_n 1 dX11_canBear_1 rfl ?_
  refine hj_callV (ci := 11) (M' := mX11_isBook) (h' := 1) (As := [.int a1]) mfX11_isBook mvX11_isBook ⟨_, _, rfl⟩ mlX11_131 dX11_canBear_2 (kX11_isBook G _ _ _) (fun _ hr => cX11_isBookk hr) ⟨Nat.le_of_ble_eq_true rfl, Nat.le_of_ble_eq_true rfl⟩ ⟨Nat.le_refl _, Nat.le_refl _⟩ rfl (Nat.le_of_ble_eq_true rfl) (fun r2 σ1 _ => ?_)
  refine hj_if_eq 37 dX11_canBear_5 (by decide) (fun _ => ?_) (fun _ => ?_)
  · refine hj_iconst (0 : Int32) dX11_canBear_37 (by decide) ?_
    exact hj_zret dX11_canBear_38 rfl (by decide) rfl (Nat.le_refl _)
  · refine hj_aload_n 0 dX11_canBear_8 rfl ?_
    refine hj_getR flX11_46 dX11_canBear_9 (fun t3 _ => ?_)
    refine hj_iload_n 1 dX11_canBear_12 rfl ?_
    refine hj_callV (ci := 5) (M' := mX5_levelOf) (h' := 1) (As := [.int a1]) mfX5_levelOf mvX5_levelOf ⟨_, _, rfl⟩ mlX11_135 dX11_canBear_13 (kX5_levelOf G _ _ _) (fun _ hr => cX5_levelOfk hr) ⟨Nat.le_of_ble_eq_true rfl, Nat.le_of_ble_eq_true rfl⟩ ⟨Nat.le_refl _, Nat.le_refl _⟩ rfl (Nat.le_of_ble_eq_true rfl) (fun r5 σ4 _ => ?_)
    refine hj_iconst (-1 : Int32) dX11_canBear_16 (by decide) ?_
    refine hj_icmp_eq 37 dX11_canBear_17 (by decide) (fun _ => ?_) (fun _ => ?_)
    · refine hj_iconst (0 : Int32) dX11_canBear_37 (by decide) ?_
      exact hj_zret dX11_canBear_38 rfl (by decide) rfl (Nat.le_refl _)
    · refine hj_iload_n 2 dX11_canBear_20 rfl ?_
      refine hj_if_lt 37 dX11_canBear_21 (by decide) (fun _ => ?_) (fun _ => ?_)
      · refine hj_iconst (0 : Int32) dX11_canBear_37 (by decide) ?_
        exact hj_zret dX11_canBear_38 rfl (by decide) rfl (Nat.le_refl _)
      · refine hj_iload_n 2 dX11_canBear_24 rfl ?_
        refine hj_aload_n 0 dX11_canBear_25 rfl ?_
        refine hj_getR flX11_27 dX11_canBear_26 (fun t6 _ => ?_)
        refine hj_getR flX11_139 dX11_canBear_29 (fun t7 _ => ?_)
        refine hj_iload_n 1 dX11_canBear_32 rfl ?_
        refine hj_iald dX11_canBear_33 (fun t8 _ => ?_)
        refine hj_icmp_le 39 dX11_canBear_34 (by decide) (fun _ => ?_) (fun _ => ?_)
        · refine hj_aload_n 0 dX11_canBear_39 rfl ?_
          refine hj_getR flX11_58 dX11_canBear_40 (fun t9 _ => ?_)
          refine hj_aload_n 0 dX11_canBear_43 rfl ?_
          refine hj_getR flX11_27 dX11_canBear_44 (fun t10 _ => ?_)
          refine hj_aload_n 0 dX11_canBear_47 rfl ?_
          refine hj_getR flX11_46 dX11_canBear_48 (fun t11 _ => ?_)
          refine hj_callV (ci := 0) (M' := mX0_weigh) (h' := 4) (As := [.ref t10, .ref t11]) mfX0_weigh mvX0_weigh ⟨_, _, rfl⟩ mlX11_162 dX11_canBear_51 (kX0_weigh G _ _ _ _) (fun _ hr => cX0_weighk hr) ⟨Nat.le_of_ble_eq_true rfl, Nat.le_of_ble_eq_true rfl⟩ ⟨Nat.le_refl _, Nat.le_refl _⟩ rfl (Nat.le_of_ble_eq_true rfl) (fun _ σ12 _ => ?_)
          refine hj_iconst (1 : Int32) dX11_canBear_54 (by decide) ?_
          exact hj_zret dX11_canBear_55 rfl (by decide) rfl (Nat.le_refl _)
        · refine hj_iconst (0 : Int32) dX11_canBear_37 (by decide) ?_
          exact hj_zret dX11_canBear_38 rfl (by decide) rfl (Nat.le_refl _)
theorem cX11_canBeark {a0 : Nat} {a1 : Int32} {a2 : Int32} {σ : Sto} {r : Int32 × Sto} (h : fX11_canBear a0 a1 a2 σ = some r) : ∃ fs, hs_o σ 11 a0 = some fs := (ck_of h).1
def fX11_bears (a0 : Nat) (a1 : Int32) (a2 : Int32) (σ : Sto) : Option (Int32 × Sto) := ck σ 11 a0 (cb (fX11_canBear a0 a1 a2 σ) fun r2 σ1 => (if r2 = 0 then (some ((-1 : Int32), σ1)) else ((gR σ1 11 a0 8).bind fun t3 => ((gR σ1 11 a0 6).bind fun t4 => (cb (fX5_levelOf t4 a1 σ1) fun r6 σ5 => (cb (fX0_bearing t3 r6 a2 σ5) fun r8 σ7 => (if r8 = 0 then (some ((-2 : Int32), σ7)) else ((gR σ7 11 a0 8).bind fun t9 => ((gI σ7 0 t9 5).bind fun t10 => (some (t10, σ7)))))))))))
set_option maxHeartbeats 2000000 in
theorem kX11_bears (G : GP) (a0 : Nat) (a1 : Int32) (a2 : Int32) (σ : Sto) : Me G mX11_bears 6 0 0 jI [.ref a0, .int a1, .int a2] σ (fX11_bears a0 a1 a2 σ) := by
  refine hs_me (lv := [(0, .ref a0), (1, .int a1), (2, .int a2)]) (plainFor_of_name (by decide +kernel)) (Nat.le_of_ble_eq_true rfl) rfl ?_
  unfold fX11_bears
  refine hj_ck ?_
  refine hj_aload_n 0 dX11_bears_0 rfl ?_
  refine hj_iload_n 1 dX11_bears_1 rfl ?_
  refine hj_iload_n 2 dX11_bears_2 rfl ?_
  refine hj_callV (ci := 11) (M' := mX11_canBear) (h' := 5) (As := [.int a1, .int a2]) mfX11_canBear mvX11_canBear ⟨_, _, rfl⟩ mlX11_222 dX11_bears_3 (kX11_canBear G _ _ _ _) (fun _ hr => cX11_canBeark hr) ⟨Nat.le_of_ble_eq_true rfl, Nat.le_of_ble_eq_true rfl⟩ ⟨Nat.le_refl _, Nat.le_refl _⟩ rfl (Nat.le_of_ble_eq_true rfl) (fun r2 σ1 _ => ?_)
  refine hj_if_ne 11 dX11_bears_6 (by decide) (fun _ => ?_) (fun _ => ?_)
  · refine hj_aload_n 0 dX11_bears_11 rfl ?_
    refine hj_getR flX11_58 dX11_bears_12 (fun t3 _ => ?_)
    refine hj_aload_n 0 dX11_bears_15 rfl ?_
    refine hj_getR flX11_46 dX11_bears_16 (fun t4 _ => ?_)
    refine hj_iload_n 1 dX11_bears_19 rfl ?_
    refine hj_callV (ci := 5) (M' := mX5_levelOf) (h' := 1) (As := [.int a1]) mfX5_levelOf mvX5_levelOf ⟨_, _, rfl⟩ mlX11_135 dX11_bears_20 (kX5_levelOf G _ _ _) (fun _ hr => cX5_levelOfk hr) ⟨Nat.le_of_ble_eq_true rfl, Nat.le_of_ble_eq_true rfl⟩ ⟨Nat.le_refl _, Nat.le_refl _⟩ rfl (Nat.le_of_ble_eq_true rfl) (fun r6 σ5 _ => ?_)
    refine hj_iload_n 2 dX11_bears_23 rfl ?_
    refine hj_callV (ci := 0) (M' := mX0_bearing) (h' := 3) (As := [.int r6, .int a2]) mfX0_bearing mvX0_bearing ⟨_, _, rfl⟩ mlX11_226 dX11_bears_24 (kX0_bearing G _ _ _ _) (fun _ hr => cX0_bearingk hr) ⟨Nat.le_of_ble_eq_true rfl, Nat.le_of_ble_eq_true rfl⟩ ⟨Nat.le_refl _, Nat.le_refl _⟩ rfl (Nat.le_of_ble_eq_true rfl) (fun r8 σ7 _ => ?_)
    refine hj_if_eq 40 dX11_bears_27 (by decide) (fun _ => ?_) (fun _ => ?_)
    · refine hj_bipush (-2 : Int32) dX11_bears_40 (by decide) ?_
      exact hj_iret dX11_bears_42 rfl rfl (Nat.le_refl _)
    · refine hj_aload_n 0 dX11_bears_30 rfl ?_
      refine hj_getR flX11_58 dX11_bears_31 (fun t9 _ => ?_)
      refine hj_getI flX11_229 dX11_bears_34 (fun t10 _ => ?_)
      refine hj_goto 42 dX11_bears_37 (by decide) ?_
      exact hj_iret dX11_bears_42 rfl rfl (Nat.le_refl _)
  · refine hj_iconst (-1 : Int32) dX11_bears_9 (by decide) ?_
    exact hj_iret dX11_bears_10 rfl rfl (Nat.le_refl _)
theorem cX11_bearsk {a0 : Nat} {a1 : Int32} {a2 : Int32} {σ : Sto} {r : Int32 × Sto} (h : fX11_bears a0 a1 a2 σ = some r) : ∃ fs, hs_o σ 11 a0 = some fs := (ck_of h).1
def fX11_holds (a0 : Nat) (a1 : Int32) (a2 : Int32) (σ : Sto) : Option (Int32 × Sto) := ck σ 11 a0 (cb (fX11_canBear a0 a1 a2 σ) fun r2 σ1 => (if r2 = 0 then (some ((-1 : Int32), σ1)) else ((gR σ1 11 a0 8).bind fun t3 => ((gR σ1 11 a0 6).bind fun t4 => (cb (fX5_levelOf t4 a1 σ1) fun r6 σ5 => (cb (fX0_bearing t3 r6 a2 σ5) fun r8 σ7 => (if r8 = 0 then (some ((-2 : Int32), σ7)) else ((gR σ7 11 a0 8).bind fun t9 => ((gI σ7 0 t9 4).bind fun t10 => (some (t10, σ7)))))))))))
set_option maxHeartbeats 2000000 in
theorem kX11_holds (G : GP) (a0 : Nat) (a1 : Int32) (a2 : Int32) (σ : Sto) : Me G mX11_holds 6 0 0 jI [.ref a0, .int a1, .int a2] σ (fX11_holds a0 a1 a2 σ) := by
  refine hs_me (lv := [(0, .ref a0), (1, .int a1), (2, .int a2)]) (plainFor_of_name (by decide +kernel)) (Nat.le_of_ble_eq_true rfl) rfl ?_
  unfold fX11_holds
  refine hj_ck ?_
  refine hj_aload_n 0 dX11_holds_0 rfl ?_
  refine hj_iload_n 1 dX11_holds_1 rfl ?_
  refine hj_iload_n 2 dX11_holds_2 rfl ?_
  refine hj_callV (ci := 11) (M' := mX11_canBear) (h' := 5) (As := [.int a1, .int a2]) mfX11_canBear mvX11_canBear ⟨_, _, rfl⟩ mlX11_222 dX11_holds_3 (kX11_canBear G _ _ _ _) (fun _ hr => cX11_canBeark hr) ⟨Nat.le_of_ble_eq_true rfl, Nat.le_of_ble_eq_true rfl⟩ ⟨Nat.le_refl _, Nat.le_refl _⟩ rfl (Nat.le_of_ble_eq_true rfl) (fun r2 σ1 _ => ?_)
  refine hj_if_ne 11 dX11_holds_6 (by decide) (fun _ => ?_) (fun _ => ?_)
  · refine hj_aload_n 0 dX11_holds_11 rfl ?_
    refine hj_getR flX11_58 dX11_holds_12 (fun t3 _ => ?_)
    refine hj_aload_n 0 dX11_holds_15 rfl ?_
    refine hj_getR flX11_46 dX11_holds_16 (fun t4 _ => ?_)
    refine hj_iload_n 1 dX11_holds_19 rfl ?_
    refine hj_callV (ci := 5) (M' := mX5_levelOf) (h' := 1) (As := [.int a1]) mfX5_levelOf mvX5_levelOf ⟨_, _, rfl⟩ mlX11_135 dX11_holds_20 (kX5_levelOf G _ _ _) (fun _ hr => cX5_levelOfk hr) ⟨Nat.le_of_ble_eq_true rfl, Nat.le_of_ble_eq_true rfl⟩ ⟨Nat.le_refl _, Nat.le_refl _⟩ rfl (Nat.le_of_ble_eq_true rfl) (fun r6 σ5 _ => ?_)
    refine hj_iload_n 2 dX11_holds_23 rfl ?_
    refine hj_callV (ci := 0) (M' := mX0_bearing) (h' := 3) (As := [.int r6, .int a2]) mfX0_bearing mvX0_bearing ⟨_, _, rfl⟩ mlX11_226 dX11_holds_24 (kX0_bearing G _ _ _ _) (fun _ hr => cX0_bearingk hr) ⟨Nat.le_of_ble_eq_true rfl, Nat.le_of_ble_eq_true rfl⟩ ⟨Nat.le_refl _, Nat.le_refl _⟩ rfl (Nat.le_of_ble_eq_true rfl) (fun r8 σ7 _ => ?_)
    refine hj_if_eq 40 dX11_holds_27 (by decide) (fun _ => ?_) (fun _ => ?_)
    · refine hj_bipush (-2 : Int32) dX11_holds_40 (by decide) ?_
      exact hj_iret dX11_holds_42 rfl rfl (Nat.le_refl _)
    · refine hj_aload_n 0 dX11_holds_30 rfl ?_
      refine hj_getR flX11_58 dX11_holds_31 (fun t9 _ => ?_)
      refine hj_getI flX11_232 dX11_holds_34 (fun t10 _ => ?_)
      refine hj_goto 42 dX11_holds_37 (by decide) ?_
      exact hj_iret dX11_holds_42 rfl rfl (Nat.le_refl _)
  · refine hj_iconst (-1 : Int32) dX11_holds_9 (by decide) ?_
    exact hj_iret dX11_holds_10 rfl rfl (Nat.le_refl _)
theorem cX11_holdsk {a0 : Nat} {a1 : Int32} {a2 : Int32} {σ : Sto} {r : Int32 × Sto} (h : fX11_holds a0 a1 a2 σ = some r) : ∃ fs, hs_o σ 11 a0 = some fs := (ck_of h).1
def fX11_pushRight_b83 (K26 : Nat → Int32 → Int32 → Int32 → Sto → Option (Unit × Sto)) (x0 : Nat) (x1 : Int32) (x2 : Int32) (x3 : Int32) (σ : Sto) : Option (Unit × Sto) := (K26 x0 x1 x2 (x3 + (1 : Int32)) σ)
set_option maxHeartbeats 2000000 in
theorem sX11_pushRight_b83 {G : GP} {n0 : Nat} {K26 : Nat → Int32 → Int32 → Int32 → Sto → Option (Unit × Sto)} (hK26 : ∀ (x0 : Nat) (x1 : Int32) (x2 : Int32) (x3 : Int32) (σ : Sto), Sim G mX11_pushRight 5 0 0 n0 jV 0 0 26 [(0, .ref x0), (1, .int x1), (2, .int x2), (3, .int x3)] [] σ (K26 x0 x1 x2 x3 σ)) : ∀ (x0 : Nat) (x1 : Int32) (x2 : Int32) (x3 : Int32) (σ : Sto), Sim G mX11_pushRight 5 0 0 n0 jV 0 0 83 [(0, .ref x0), (1, .int x1), (2, .int x2), (3, .int x3)] [] σ (fX11_pushRight_b83 K26 x0 x1 x2 x3 σ) := by
  intro x0 x1 x2 x3 σ
  unfold fX11_pushRight_b83
  refine hj_iinc (lv' := [(0, .ref x0), (1, .int x1), (2, .int x2), (3, .int (x3 + (1 : Int32)))]) 3 (1 : Int32) dX11_pushRight_83 rfl (by decide) (by decide) [1, 2, 3, 0] rfl ?_
  refine hj_goto 26 dX11_pushRight_86 (by decide) ?_
  refine hj_loc (lv' := [(0, .ref x0), (1, .int x1), (2, .int x2), (3, .int (x3 + (1 : Int32)))]) [0, 1, 2, 3] rfl ?_
  exact hK26 _ _ _ _ _
def fX11_pushRight_b26 : Nat → Nat → Int32 → Int32 → Int32 → Sto → Option (Unit × Sto)
  | 0, _, _, _, _, _ => none
  | n + 1, x0, x1, x2, x3, σ => (if (200 : Int32) < x3 then (some ((), σ)) else (if x2 = 0 then (some ((), σ)) else ((gR σ 11 x0 7).bind fun t1 => (cb (fX5_shift t1 x1 ((1 : Int32)) σ) fun _ σ2 => ((gR σ2 11 x0 8).bind fun t3 => ((gR σ2 11 x0 3).bind fun t4 => ((gR σ2 11 x0 7).bind fun t5 => (cb (fX0_weigh t3 t4 t5 σ2) fun _ σ6 => ((gR σ6 11 x0 8).bind fun t7 => (cb (fX0_levelStands t7 x1 σ6) fun r9 σ8 => (if r9 = 0 then ((gR σ8 11 x0 7).bind fun t10 => (cb (fX5_shift t10 x1 ((-1 : Int32)) σ8) fun _ σ11 => (fX11_pushRight_b83 (fX11_pushRight_b26 n) x0 x1 r9 x3 σ11))) else (fX11_pushRight_b83 (fX11_pushRight_b26 n) x0 x1 r9 x3 σ8))))))))))))
set_option maxHeartbeats 2000000 in
theorem sX11_pushRight_b26 {G : GP} {n0 : Nat} : ∀ (n : Nat) (x0 : Nat) (x1 : Int32) (x2 : Int32) (x3 : Int32) (σ : Sto), Sim G mX11_pushRight 5 0 0 n0 jV 0 0 26 [(0, .ref x0), (1, .int x1), (2, .int x2), (3, .int x3)] [] σ (fX11_pushRight_b26 n x0 x1 x2 x3 σ) := by
  intro n
  induction n with
  | zero => intros; rw [fX11_pushRight_b26]; exact hj_none
  | succ n ih =>
    intro x0 x1 x2 x3 σ
    rw [fX11_pushRight_b26]
    refine hj_iload_n 3 dX11_pushRight_26 rfl ?_
    refine hj_sipush (200 : Int32) dX11_pushRight_27 (by decide) ?_
    refine hj_icmp_gt 89 dX11_pushRight_30 (by decide) (fun _ => ?_) (fun _ => ?_)
    · exact hj_vret dX11_pushRight_89 rfl rfl (Nat.le_refl _)
    · refine hj_iload_n 2 dX11_pushRight_33 rfl ?_
      refine hj_if_eq 89 dX11_pushRight_34 (by decide) (fun _ => ?_) (fun _ => ?_)
      · exact hj_vret dX11_pushRight_89 rfl rfl (Nat.le_refl _)
      · refine hj_aload_n 0 dX11_pushRight_37 rfl ?_
        refine hj_getR flX11_50 dX11_pushRight_38 (fun t1 _ => ?_)
        refine hj_iload_n 1 dX11_pushRight_41 rfl ?_
        refine hj_iconst (1 : Int32) dX11_pushRight_42 (by decide) ?_
        refine hj_callV (ci := 5) (M' := mX5_shift) (h' := 2) (As := [.int x1, .int ((1 : Int32))]) mfX5_shift mvX5_shift ⟨_, _, rfl⟩ mlX11_214 dX11_pushRight_43 (kX5_shift G _ _ _ _) (fun _ hr => cX5_shiftk hr) ⟨Nat.le_of_ble_eq_true rfl, Nat.le_of_ble_eq_true rfl⟩ ⟨Nat.le_refl _, Nat.le_refl _⟩ rfl (Nat.le_of_ble_eq_true rfl) (fun _ σ2 _ => ?_)
        refine hj_aload_n 0 dX11_pushRight_46 rfl ?_
        refine hj_getR flX11_58 dX11_pushRight_47 (fun t3 _ => ?_)
        refine hj_aload_n 0 dX11_pushRight_50 rfl ?_
        refine hj_getR flX11_27 dX11_pushRight_51 (fun t4 _ => ?_)
        refine hj_aload_n 0 dX11_pushRight_54 rfl ?_
        refine hj_getR flX11_50 dX11_pushRight_55 (fun t5 _ => ?_)
        refine hj_callV (ci := 0) (M' := mX0_weigh) (h' := 4) (As := [.ref t4, .ref t5]) mfX0_weigh mvX0_weigh ⟨_, _, rfl⟩ mlX11_162 dX11_pushRight_58 (kX0_weigh G _ _ _ _) (fun _ hr => cX0_weighk hr) ⟨Nat.le_of_ble_eq_true rfl, Nat.le_of_ble_eq_true rfl⟩ ⟨Nat.le_refl _, Nat.le_refl _⟩ rfl (Nat.le_of_ble_eq_true rfl) (fun _ σ6 _ => ?_)
        refine hj_aload_n 0 dX11_pushRight_61 rfl ?_
        refine hj_getR flX11_58 dX11_pushRight_62 (fun t7 _ => ?_)
        refine hj_iload_n 1 dX11_pushRight_65 rfl ?_
        refine hj_callV (ci := 0) (M' := mX0_levelStands) (h' := 3) (As := [.int x1]) mfX0_levelStands mvX0_levelStands ⟨_, _, rfl⟩ mlX11_315 dX11_pushRight_66 (kX0_levelStands G _ _ _) (fun _ hr => cX0_levelStandsk hr) ⟨Nat.le_of_ble_eq_true rfl, Nat.le_of_ble_eq_true rfl⟩ ⟨Nat.le_refl _, Nat.le_refl _⟩ rfl (Nat.le_of_ble_eq_true rfl) (fun r9 σ8 _ => ?_)
        refine hj_istore_n (lv' := [(0, .ref x0), (1, .int x1), (2, .int r9), (3, .int x3)]) dX11_pushRight_69 (by decide) [1, 2, 0, 3] rfl ?_
        refine hj_iload_n 2 dX11_pushRight_70 rfl ?_
        refine hj_if_ne 83 dX11_pushRight_71 (by decide) (fun _ => ?_) (fun _ => ?_)
        · refine hj_loc (lv' := [(0, .ref x0), (1, .int x1), (2, .int r9), (3, .int x3)]) [0, 1, 2, 3] rfl ?_
          exact sX11_pushRight_b83 ih _ _ _ _ _
        · refine hj_aload_n 0 dX11_pushRight_74 rfl ?_
          refine hj_getR flX11_50 dX11_pushRight_75 (fun t10 _ => ?_)
          refine hj_iload_n 1 dX11_pushRight_78 rfl ?_
          refine hj_iconst (-1 : Int32) dX11_pushRight_79 (by decide) ?_
          refine hj_callV (ci := 5) (M' := mX5_shift) (h' := 2) (As := [.int x1, .int ((-1 : Int32))]) mfX5_shift mvX5_shift ⟨_, _, rfl⟩ mlX11_214 dX11_pushRight_80 (kX5_shift G _ _ _ _) (fun _ hr => cX5_shiftk hr) ⟨Nat.le_of_ble_eq_true rfl, Nat.le_of_ble_eq_true rfl⟩ ⟨Nat.le_refl _, Nat.le_refl _⟩ rfl (Nat.le_of_ble_eq_true rfl) (fun _ σ11 _ => ?_)
          refine hj_loc (lv' := [(0, .ref x0), (1, .int x1), (2, .int r9), (3, .int x3)]) [0, 1, 2, 3] rfl ?_
          exact sX11_pushRight_b83 ih _ _ _ _ _
def fX11_pushRight (a0 : Nat) (a1 : Int32) (σ : Sto) : Option (Unit × Sto) := ck σ 11 a0 ((gR σ 11 a0 8).bind fun t12 => ((gR σ 11 a0 3).bind fun t13 => ((gR σ 11 a0 7).bind fun t14 => (cb (fX0_weigh t12 t13 t14 σ) fun _ σ15 => ((gR σ15 11 a0 8).bind fun t16 => (cb (fX0_levelStands t16 a1 σ15) fun r18 σ17 => (fX11_pushRight_b26 FU a0 a1 r18 ((1 : Int32)) σ17)))))))
set_option maxHeartbeats 2000000 in
theorem kX11_pushRight (G : GP) (a0 : Nat) (a1 : Int32) (σ : Sto) : Me G mX11_pushRight 5 0 0 jV [.ref a0, .int a1] σ (fX11_pushRight a0 a1 σ) := by
  refine hs_me (lv := [(0, .ref a0), (1, .int a1)]) (plainFor_of_name (by decide +kernel)) (Nat.le_of_ble_eq_true rfl) rfl ?_
  unfold fX11_pushRight
  refine hj_ck ?_
  refine hj_aload_n 0 dX11_pushRight_0 rfl ?_
  refine hj_getR flX11_58 dX11_pushRight_1 (fun t12 _ => ?_)
  refine hj_aload_n 0 dX11_pushRight_4 rfl ?_
  refine hj_getR flX11_27 dX11_pushRight_5 (fun t13 _ => ?_)
  refine hj_aload_n 0 dX11_pushRight_8 rfl ?_
  refine hj_getR flX11_50 dX11_pushRight_9 (fun t14 _ => ?_)
  refine hj_callV (ci := 0) (M' := mX0_weigh) (h' := 4) (As := [.ref t13, .ref t14]) mfX0_weigh mvX0_weigh ⟨_, _, rfl⟩ mlX11_162 dX11_pushRight_12 (kX0_weigh G _ _ _ _) (fun _ hr => cX0_weighk hr) ⟨Nat.le_of_ble_eq_true rfl, Nat.le_of_ble_eq_true rfl⟩ ⟨Nat.le_refl _, Nat.le_refl _⟩ rfl (Nat.le_of_ble_eq_true rfl) (fun _ σ15 _ => ?_)
  refine hj_aload_n 0 dX11_pushRight_15 rfl ?_
  refine hj_getR flX11_58 dX11_pushRight_16 (fun t16 _ => ?_)
  refine hj_iload_n 1 dX11_pushRight_19 rfl ?_
  refine hj_callV (ci := 0) (M' := mX0_levelStands) (h' := 3) (As := [.int a1]) mfX0_levelStands mvX0_levelStands ⟨_, _, rfl⟩ mlX11_315 dX11_pushRight_20 (kX0_levelStands G _ _ _) (fun _ hr => cX0_levelStandsk hr) ⟨Nat.le_of_ble_eq_true rfl, Nat.le_of_ble_eq_true rfl⟩ ⟨Nat.le_refl _, Nat.le_refl _⟩ rfl (Nat.le_of_ble_eq_true rfl) (fun r18 σ17 _ => ?_)
  refine hj_istore_n (lv' := [(0, .ref a0), (1, .int a1), (2, .int r18)]) dX11_pushRight_23 (by decide) [1, 2, 0] rfl ?_
  refine hj_iconst (1 : Int32) dX11_pushRight_24 (by decide) ?_
  refine hj_istore_n (lv' := [(0, .ref a0), (1, .int a1), (2, .int r18), (3, .int (1 : Int32))]) dX11_pushRight_25 (by decide) [1, 2, 3, 0] rfl ?_
  refine hj_loc (lv' := [(0, .ref a0), (1, .int a1), (2, .int r18), (3, .int (1 : Int32))]) [0, 1, 2, 3] rfl ?_
  exact sX11_pushRight_b26 _ _ _ _ _ _
theorem cX11_pushRightk {a0 : Nat} {a1 : Int32} {σ : Sto} {r : Unit × Sto} (h : fX11_pushRight a0 a1 σ = some r) : ∃ fs, hs_o σ 11 a0 = some fs := (ck_of h).1
def fX11_pushed_b47 (x0 : Nat) (x1 : Int32) (σ : Sto) : Option (Int32 × Sto) := (if x1 = 0 then ((gR σ 11 x0 7).bind fun t13 => (cb (fX11_farthestOut x0 t13 σ) fun r15 σ14 => (some (r15, σ14)))) else ((gR σ 11 x0 8).bind fun t8 => ((gR σ 11 x0 3).bind fun t9 => ((gR σ 11 x0 7).bind fun t10 => (cb (fX0_allStand t8 t9 t10 σ) fun r12 σ11 => (if r12 = 0 then (some ((0 : Int32), σ11)) else (some ((1 : Int32), σ11))))))))
set_option maxHeartbeats 2000000 in
theorem sX11_pushed_b47 {G : GP} {n0 : Nat} : ∀ (x0 : Nat) (x1 : Int32) (σ : Sto), Sim G mX11_pushed 6 0 0 n0 jI 0 0 47 [(0, .ref x0), (1, .int x1)] [] σ (fX11_pushed_b47 x0 x1 σ) := by
  intro x0 x1 σ
  unfold fX11_pushed_b47
  refine hj_iload_n 1 dX11_pushed_47 rfl ?_
  refine hj_if_ne 60 dX11_pushed_48 (by decide) (fun _ => ?_) (fun _ => ?_)
  · refine hj_aload_n 0 dX11_pushed_60 rfl ?_
    refine hj_getR flX11_58 dX11_pushed_61 (fun t8 _ => ?_)
    refine hj_aload_n 0 dX11_pushed_64 rfl ?_
    refine hj_getR flX11_27 dX11_pushed_65 (fun t9 _ => ?_)
    refine hj_aload_n 0 dX11_pushed_68 rfl ?_
    refine hj_getR flX11_50 dX11_pushed_69 (fun t10 _ => ?_)
    refine hj_callV (ci := 0) (M' := mX0_allStand) (h' := 5) (As := [.ref t9, .ref t10]) mfX0_allStand mvX0_allStand ⟨_, _, rfl⟩ mlX11_183 dX11_pushed_72 (kX0_allStand G _ _ _ _) (fun _ hr => cX0_allStandk hr) ⟨Nat.le_of_ble_eq_true rfl, Nat.le_of_ble_eq_true rfl⟩ ⟨Nat.le_refl _, Nat.le_refl _⟩ rfl (Nat.le_of_ble_eq_true rfl) (fun r12 σ11 _ => ?_)
    refine hj_if_eq 82 dX11_pushed_75 (by decide) (fun _ => ?_) (fun _ => ?_)
    · refine hj_iconst (0 : Int32) dX11_pushed_82 (by decide) ?_
      exact hj_iret dX11_pushed_83 rfl rfl (Nat.le_refl _)
    · refine hj_iconst (1 : Int32) dX11_pushed_78 (by decide) ?_
      refine hj_goto 83 dX11_pushed_79 (by decide) ?_
      exact hj_iret dX11_pushed_83 rfl rfl (Nat.le_refl _)
  · refine hj_aload_n 0 dX11_pushed_51 rfl ?_
    refine hj_aload_n 0 dX11_pushed_52 rfl ?_
    refine hj_getR flX11_50 dX11_pushed_53 (fun t13 _ => ?_)
    refine hj_callV (ci := 11) (M' := mX11_farthestOut) (h' := 2) (As := [.ref t13]) mfX11_farthestOut mvX11_farthestOut ⟨_, _, rfl⟩ mlX11_194 dX11_pushed_56 (kX11_farthestOut G _ _ _) (fun _ hr => cX11_farthestOutk hr) ⟨Nat.le_of_ble_eq_true rfl, Nat.le_of_ble_eq_true rfl⟩ ⟨Nat.le_refl _, Nat.le_refl _⟩ rfl (Nat.le_of_ble_eq_true rfl) (fun r15 σ14 _ => ?_)
    exact hj_iret dX11_pushed_59 rfl rfl (Nat.le_refl _)
def fX11_pushed_b32 : Nat → Nat → Int32 → Int32 → Sto → Option (Int32 × Sto)
  | 0, _, _, _, _ => none
  | n + 1, x0, x1, x2, σ => (if x2 < 0 then (fX11_pushed_b47 x0 x1 σ) else (cb (fX11_pushRight x0 x2 σ) fun _ σ1 => (fX11_pushed_b32 n x0 x1 (x2 + (-1 : Int32)) σ1)))
set_option maxHeartbeats 2000000 in
theorem sX11_pushed_b32 {G : GP} {n0 : Nat} : ∀ (n : Nat) (x0 : Nat) (x1 : Int32) (x2 : Int32) (σ : Sto), Sim G mX11_pushed 6 0 0 n0 jI 0 0 32 [(0, .ref x0), (1, .int x1), (2, .int x2)] [] σ (fX11_pushed_b32 n x0 x1 x2 σ) := by
  intro n
  induction n with
  | zero => intros; rw [fX11_pushed_b32]; exact hj_none
  | succ n ih =>
    intro x0 x1 x2 σ
    rw [fX11_pushed_b32]
    refine hj_iload_n 2 dX11_pushed_32 rfl ?_
    refine hj_if_lt 47 dX11_pushed_33 (by decide) (fun _ => ?_) (fun _ => ?_)
    · refine hj_loc (lv' := [(0, .ref x0), (1, .int x1)]) [0, 1] rfl ?_
      exact sX11_pushed_b47 _ _ _
    · refine hj_aload_n 0 dX11_pushed_36 rfl ?_
      refine hj_iload_n 2 dX11_pushed_37 rfl ?_
      refine hj_callV (ci := 11) (M' := mX11_pushRight) (h' := 5) (As := [.int x2]) mfX11_pushRight mvX11_pushRight ⟨_, _, rfl⟩ mlX11_235 dX11_pushed_38 (kX11_pushRight G _ _ _) (fun _ hr => cX11_pushRightk hr) ⟨Nat.le_of_ble_eq_true rfl, Nat.le_of_ble_eq_true rfl⟩ ⟨Nat.le_refl _, Nat.le_refl _⟩ rfl (Nat.le_of_ble_eq_true rfl) (fun _ σ1 _ => ?_)
      refine hj_iinc (lv' := [(0, .ref x0), (1, .int x1), (2, .int (x2 + (-1 : Int32)))]) 2 (-1 : Int32) dX11_pushed_41 rfl (by decide) (by decide) [1, 2, 0] rfl ?_
      refine hj_goto 32 dX11_pushed_44 (by decide) ?_
      refine hj_loc (lv' := [(0, .ref x0), (1, .int x1), (2, .int (x2 + (-1 : Int32)))]) [0, 1, 2] rfl ?_
      exact ih _ _ _ _
def fX11_pushed_b11 (x0 : Nat) (x1 : Int32) (σ : Sto) : Option (Int32 × Sto) := ((gR σ 11 x0 7).bind fun t2 => ((gR σ 11 x0 6).bind fun t3 => (cb (fX5_copyFrom t2 t3 σ) fun _ σ4 => ((gR σ4 11 x0 7).bind fun t5 => ((gI σ4 5 t5 0).bind fun t6 => (lt ((t6 - ((1 : Int32)))) fun v7 => (fX11_pushed_b32 FU x0 x1 v7 σ4)))))))
set_option maxHeartbeats 2000000 in
theorem sX11_pushed_b11 {G : GP} {n0 : Nat} : ∀ (x0 : Nat) (x1 : Int32) (σ : Sto), Sim G mX11_pushed 6 0 0 n0 jI 0 0 11 [(0, .ref x0), (1, .int x1)] [] σ (fX11_pushed_b11 x0 x1 σ) := by
  intro x0 x1 σ
  unfold fX11_pushed_b11
  refine hj_aload_n 0 dX11_pushed_11 rfl ?_
  refine hj_getR flX11_50 dX11_pushed_12 (fun t2 _ => ?_)
  refine hj_aload_n 0 dX11_pushed_15 rfl ?_
  refine hj_getR flX11_46 dX11_pushed_16 (fun t3 _ => ?_)
  refine hj_callV (ci := 5) (M' := mX5_copyFrom) (h' := 2) (As := [.ref t3]) mfX5_copyFrom mvX5_copyFrom ⟨_, _, rfl⟩ mlX11_117 dX11_pushed_19 (kX5_copyFrom G _ _ _) (fun _ hr => cX5_copyFromk hr) ⟨Nat.le_of_ble_eq_true rfl, Nat.le_of_ble_eq_true rfl⟩ ⟨Nat.le_refl _, Nat.le_refl _⟩ rfl (Nat.le_of_ble_eq_true rfl) (fun _ σ4 _ => ?_)
  refine hj_aload_n 0 dX11_pushed_22 rfl ?_
  refine hj_getR flX11_50 dX11_pushed_23 (fun t5 _ => ?_)
  refine hj_getI flX11_210 dX11_pushed_26 (fun t6 _ => ?_)
  refine hj_iconst (1 : Int32) dX11_pushed_29 (by decide) ?_
  refine hj_isub dX11_pushed_30 ?_
  refine hj_ltI (fun v7 _ => ?_)
  refine hj_istore_n (lv' := [(0, .ref x0), (1, .int x1), (2, .int v7)]) dX11_pushed_31 (by decide) [1, 2, 0] rfl ?_
  refine hj_loc (lv' := [(0, .ref x0), (1, .int x1), (2, .int v7)]) [0, 1, 2] rfl ?_
  exact sX11_pushed_b32 _ _ _ _ _
def fX11_pushed (a0 : Nat) (a1 : Int32) (σ : Sto) : Option (Int32 × Sto) := ck σ 11 a0 (if a1 = 0 then (fX11_pushed_b11 a0 a1 σ) else (if a1 = (1 : Int32) then (fX11_pushed_b11 a0 a1 σ) else (some ((-1 : Int32), σ))))
set_option maxHeartbeats 2000000 in
theorem kX11_pushed (G : GP) (a0 : Nat) (a1 : Int32) (σ : Sto) : Me G mX11_pushed 6 0 0 jI [.ref a0, .int a1] σ (fX11_pushed a0 a1 σ) := by
  refine hs_me (lv := [(0, .ref a0), (1, .int a1)]) (plainFor_of_name (by decide +kernel)) (Nat.le_of_ble_eq_true rfl) rfl ?_
  unfold fX11_pushed
  refine hj_ck ?_
  refine hj_iload_n 1 dX11_pushed_0 rfl ?_
  refine hj_if_eq 11 dX11_pushed_1 (by decide) (fun _ => ?_) (fun _ => ?_)
  · refine hj_loc (lv' := [(0, .ref a0), (1, .int a1)]) [0, 1] rfl ?_
    exact sX11_pushed_b11 _ _ _
  · refine hj_iload_n 1 dX11_pushed_4 rfl ?_
    refine hj_iconst (1 : Int32) dX11_pushed_5 (by decide) ?_
    refine hj_icmp_eq 11 dX11_pushed_6 (by decide) (fun _ => ?_) (fun _ => ?_)
    · refine hj_loc (lv' := [(0, .ref a0), (1, .int a1)]) [0, 1] rfl ?_
      exact sX11_pushed_b11 _ _ _
    · refine hj_iconst (-1 : Int32) dX11_pushed_9 (by decide) ?_
      exact hj_iret dX11_pushed_10 rfl rfl (Nat.le_refl _)
theorem cX11_pushedk {a0 : Nat} {a1 : Int32} {σ : Sto} {r : Int32 × Sto} (h : fX11_pushed a0 a1 σ = some r) : ∃ fs, hs_o σ 11 a0 = some fs := (ck_of h).1
def fX11_waysOn_b33 (K4 : Nat → Int32 → Int32 → Int32 → Sto → Option (Int32 × Sto)) (x0 : Nat) (x1 : Int32) (x2 : Int32) (x3 : Int32) (σ : Sto) : Option (Int32 × Sto) := (K4 x0 x1 x2 (x3 + (1 : Int32)) σ)
set_option maxHeartbeats 2000000 in
theorem sX11_waysOn_b33 {G : GP} {n0 : Nat} {K4 : Nat → Int32 → Int32 → Int32 → Sto → Option (Int32 × Sto)} (hK4 : ∀ (x0 : Nat) (x1 : Int32) (x2 : Int32) (x3 : Int32) (σ : Sto), Sim G mX11_waysOn 1 0 0 n0 jI 0 0 4 [(0, .ref x0), (1, .int x1), (2, .int x2), (3, .int x3)] [] σ (K4 x0 x1 x2 x3 σ)) : ∀ (x0 : Nat) (x1 : Int32) (x2 : Int32) (x3 : Int32) (σ : Sto), Sim G mX11_waysOn 1 0 0 n0 jI 0 0 33 [(0, .ref x0), (1, .int x1), (2, .int x2), (3, .int x3)] [] σ (fX11_waysOn_b33 K4 x0 x1 x2 x3 σ) := by
  intro x0 x1 x2 x3 σ
  unfold fX11_waysOn_b33
  refine hj_iinc (lv' := [(0, .ref x0), (1, .int x1), (2, .int x2), (3, .int (x3 + (1 : Int32)))]) 3 (1 : Int32) dX11_waysOn_33 rfl (by decide) (by decide) [1, 2, 3, 0] rfl ?_
  refine hj_goto 4 dX11_waysOn_36 (by decide) ?_
  refine hj_loc (lv' := [(0, .ref x0), (1, .int x1), (2, .int x2), (3, .int (x3 + (1 : Int32)))]) [0, 1, 2, 3] rfl ?_
  exact hK4 _ _ _ _ _
def fX11_waysOn_b4 : Nat → Nat → Int32 → Int32 → Int32 → Sto → Option (Int32 × Sto)
  | 0, _, _, _, _, _ => none
  | n + 1, x0, x1, x2, x3, σ => (if (6 : Int32) ≤ x3 then (some (x2, σ)) else (if (x1 &&& ((((1 : Int32)) <<< (x3 &&& 31)))) = 0 then (fX11_waysOn_b33 (fX11_waysOn_b4 n) x0 x1 x2 x3 σ) else ((gR σ 11 x0 14).bind fun t1 => ((aI σ 2 t1 ((x1 &&& ((((((1 : Int32)) <<< (x3 &&& 31))) ^^^ ((-1 : Int32))))))).bind fun t2 => (lt ((x2 + t2)) fun v3 => (fX11_waysOn_b33 (fX11_waysOn_b4 n) x0 x1 v3 x3 σ))))))
set_option maxHeartbeats 2000000 in
theorem sX11_waysOn_b4 {G : GP} {n0 : Nat} : ∀ (n : Nat) (x0 : Nat) (x1 : Int32) (x2 : Int32) (x3 : Int32) (σ : Sto), Sim G mX11_waysOn 1 0 0 n0 jI 0 0 4 [(0, .ref x0), (1, .int x1), (2, .int x2), (3, .int x3)] [] σ (fX11_waysOn_b4 n x0 x1 x2 x3 σ) := by
  intro n
  induction n with
  | zero => intros; rw [fX11_waysOn_b4]; exact hj_none
  | succ n ih =>
    intro x0 x1 x2 x3 σ
    rw [fX11_waysOn_b4]
    refine hj_iload_n 3 dX11_waysOn_4 rfl ?_
    refine hj_bipush (6 : Int32) dX11_waysOn_5 (by decide) ?_
    refine hj_icmp_ge 39 dX11_waysOn_7 (by decide) (fun _ => ?_) (fun _ => ?_)
    · refine hj_iload_n 2 dX11_waysOn_39 rfl ?_
      exact hj_iret dX11_waysOn_40 rfl rfl (Nat.le_refl _)
    · refine hj_iload_n 1 dX11_waysOn_10 rfl ?_
      refine hj_iconst (1 : Int32) dX11_waysOn_11 (by decide) ?_
      refine hj_iload_n 3 dX11_waysOn_12 rfl ?_
      refine hj_ishl dX11_waysOn_13 ?_
      refine hj_iand dX11_waysOn_14 ?_
      refine hj_if_eq 33 dX11_waysOn_15 (by decide) (fun _ => ?_) (fun _ => ?_)
      · refine hj_loc (lv' := [(0, .ref x0), (1, .int x1), (2, .int x2), (3, .int x3)]) [0, 1, 2, 3] rfl ?_
        exact sX11_waysOn_b33 ih _ _ _ _ _
      · refine hj_iload_n 2 dX11_waysOn_18 rfl ?_
        refine hj_aload_n 0 dX11_waysOn_19 rfl ?_
        refine hj_getR flX11_97 dX11_waysOn_20 (fun t1 _ => ?_)
        refine hj_iload_n 1 dX11_waysOn_23 rfl ?_
        refine hj_iconst (1 : Int32) dX11_waysOn_24 (by decide) ?_
        refine hj_iload_n 3 dX11_waysOn_25 rfl ?_
        refine hj_ishl dX11_waysOn_26 ?_
        refine hj_iconst (-1 : Int32) dX11_waysOn_27 (by decide) ?_
        refine hj_ixor dX11_waysOn_28 ?_
        refine hj_iand dX11_waysOn_29 ?_
        refine hj_iald dX11_waysOn_30 (fun t2 _ => ?_)
        refine hj_iadd dX11_waysOn_31 ?_
        refine hj_ltI (fun v3 _ => ?_)
        refine hj_istore_n (lv' := [(0, .ref x0), (1, .int x1), (2, .int v3), (3, .int x3)]) dX11_waysOn_32 (by decide) [1, 2, 0, 3] rfl ?_
        refine hj_loc (lv' := [(0, .ref x0), (1, .int x1), (2, .int v3), (3, .int x3)]) [0, 1, 2, 3] rfl ?_
        exact sX11_waysOn_b33 ih _ _ _ _ _
def fX11_waysOn (a0 : Nat) (a1 : Int32) (σ : Sto) : Option (Int32 × Sto) := ck σ 11 a0 (fX11_waysOn_b4 FU a0 a1 ((0 : Int32)) ((0 : Int32)) σ)
set_option maxHeartbeats 2000000 in
theorem kX11_waysOn (G : GP) (a0 : Nat) (a1 : Int32) (σ : Sto) : Me G mX11_waysOn 1 0 0 jI [.ref a0, .int a1] σ (fX11_waysOn a0 a1 σ) := by
  refine hs_me (lv := [(0, .ref a0), (1, .int a1)]) (plainFor_of_name (by decide +kernel)) (Nat.le_of_ble_eq_true rfl) rfl ?_
  unfold fX11_waysOn
  refine hj_ck ?_
  refine hj_iconst (0 : Int32) dX11_waysOn_0 (by decide) ?_
  refine hj_istore_n (lv' := [(0, .ref a0), (1, .int a1), (2, .int (0 : Int32))]) dX11_waysOn_1 (by decide) [1, 2, 0] rfl ?_
  refine hj_iconst (0 : Int32) dX11_waysOn_2 (by decide) ?_
  refine hj_istore_n (lv' := [(0, .ref a0), (1, .int a1), (2, .int (0 : Int32)), (3, .int (0 : Int32))]) dX11_waysOn_3 (by decide) [1, 2, 3, 0] rfl ?_
  refine hj_loc (lv' := [(0, .ref a0), (1, .int a1), (2, .int (0 : Int32)), (3, .int (0 : Int32))]) [0, 1, 2, 3] rfl ?_
  exact sX11_waysOn_b4 _ _ _ _ _ _
theorem cX11_waysOnk {a0 : Nat} {a1 : Int32} {σ : Sto} {r : Int32 × Sto} (h : fX11_waysOn a0 a1 σ = some r) : ∃ fs, hs_o σ 11 a0 = some fs := (ck_of h).1
def fX11_takings_b76 (K21 : Nat → Int32 → Int32 → Sto → Option (Int32 × Sto)) (x0 : Nat) (x1 : Int32) (x2 : Int32) (y0 : Nat) (y1 : Int32) (y2 : Int32) (σ : Sto) : Option (Int32 × Sto) := ((sI σ 2 y0 y1 y2).bind fun σ1 => (K21 x0 x1 (x2 + (1 : Int32)) σ1))
set_option maxHeartbeats 2000000 in
theorem sX11_takings_b76 {G : GP} {n0 : Nat} {K21 : Nat → Int32 → Int32 → Sto → Option (Int32 × Sto)} (hK21 : ∀ (x0 : Nat) (x1 : Int32) (x2 : Int32) (σ : Sto), Sim G mX11_takings 6 0 0 n0 jI 0 0 21 [(0, .ref x0), (1, .int x1), (2, .int x2)] [] σ (K21 x0 x1 x2 σ)) : ∀ (x0 : Nat) (x1 : Int32) (x2 : Int32) (y0 : Nat) (y1 : Int32) (y2 : Int32) (σ : Sto), Sim G mX11_takings 6 0 0 n0 jI 0 0 76 [(0, .ref x0), (1, .int x1), (2, .int x2)] [.int y2, .int y1, .ref y0] σ (fX11_takings_b76 K21 x0 x1 x2 y0 y1 y2 σ) := by
  intro x0 x1 x2 y0 y1 y2 σ
  unfold fX11_takings_b76
  refine hj_iast dX11_takings_76 (fun σ1 _ => ?_)
  refine hj_iinc (lv' := [(0, .ref x0), (1, .int x1), (2, .int (x2 + (1 : Int32)))]) 2 (1 : Int32) dX11_takings_77 rfl (by decide) (by decide) [1, 2, 0] rfl ?_
  refine hj_goto 21 dX11_takings_80 (by decide) ?_
  refine hj_loc (lv' := [(0, .ref x0), (1, .int x1), (2, .int (x2 + (1 : Int32)))]) [0, 1, 2] rfl ?_
  exact hK21 _ _ _ _
def fX11_takings_b21 : Nat → Nat → Int32 → Int32 → Sto → Option (Int32 × Sto)
  | 0, _, _, _, _ => none
  | n + 1, x0, x1, x2, σ => (if x1 < x2 then ((gR σ 11 x0 14).bind fun t2 => ((aI σ 2 t2 x1).bind fun t3 => (some (t3, σ)))) else (if (64 : Int32) ≤ x2 then ((gR σ 11 x0 14).bind fun t4 => ((aI σ 2 t4 x1).bind fun t5 => (some (t5, σ)))) else ((gR σ 11 x0 7).bind fun t6 => ((gR σ 11 x0 6).bind fun t7 => (cb (fX5_keepOf t6 t7 x2 σ) fun _ σ8 => ((gR σ8 11 x0 14).bind fun t9 => ((gR σ8 11 x0 8).bind fun t10 => ((gR σ8 11 x0 3).bind fun t11 => ((gR σ8 11 x0 7).bind fun t12 => (cb (fX0_allStand t10 t11 t12 σ8) fun r14 σ13 => (if r14 = 0 then (fX11_takings_b76 (fX11_takings_b21 n) x0 x1 x2 t9 x2 ((0 : Int32)) σ13) else (cb (fX11_waysOn x0 x2 σ13) fun r16 σ15 => (fX11_takings_b76 (fX11_takings_b21 n) x0 x1 x2 t9 x2 r16 σ15)))))))))))))
set_option maxHeartbeats 2000000 in
theorem sX11_takings_b21 {G : GP} {n0 : Nat} : ∀ (n : Nat) (x0 : Nat) (x1 : Int32) (x2 : Int32) (σ : Sto), Sim G mX11_takings 6 0 0 n0 jI 0 0 21 [(0, .ref x0), (1, .int x1), (2, .int x2)] [] σ (fX11_takings_b21 n x0 x1 x2 σ) := by
  intro n
  induction n with
  | zero => intros; rw [fX11_takings_b21]; exact hj_none
  | succ n ih =>
    intro x0 x1 x2 σ
    rw [fX11_takings_b21]
    refine hj_iload_n 2 dX11_takings_21 rfl ?_
    refine hj_iload_n 1 dX11_takings_22 rfl ?_
    refine hj_icmp_gt 83 dX11_takings_23 (by decide) (fun _ => ?_) (fun _ => ?_)
    · refine hj_aload_n 0 dX11_takings_83 rfl ?_
      refine hj_getR flX11_97 dX11_takings_84 (fun t2 _ => ?_)
      refine hj_iload_n 1 dX11_takings_87 rfl ?_
      refine hj_iald dX11_takings_88 (fun t3 _ => ?_)
      exact hj_iret dX11_takings_89 rfl rfl (Nat.le_refl _)
    · refine hj_iload_n 2 dX11_takings_26 rfl ?_
      refine hj_bipush (64 : Int32) dX11_takings_27 (by decide) ?_
      refine hj_icmp_ge 83 dX11_takings_29 (by decide) (fun _ => ?_) (fun _ => ?_)
      · refine hj_aload_n 0 dX11_takings_83 rfl ?_
        refine hj_getR flX11_97 dX11_takings_84 (fun t4 _ => ?_)
        refine hj_iload_n 1 dX11_takings_87 rfl ?_
        refine hj_iald dX11_takings_88 (fun t5 _ => ?_)
        exact hj_iret dX11_takings_89 rfl rfl (Nat.le_refl _)
      · refine hj_aload_n 0 dX11_takings_32 rfl ?_
        refine hj_getR flX11_50 dX11_takings_33 (fun t6 _ => ?_)
        refine hj_aload_n 0 dX11_takings_36 rfl ?_
        refine hj_getR flX11_46 dX11_takings_37 (fun t7 _ => ?_)
        refine hj_iload_n 2 dX11_takings_40 rfl ?_
        refine hj_callV (ci := 5) (M' := mX5_keepOf) (h' := 2) (As := [.ref t7, .int x2]) mfX5_keepOf mvX5_keepOf ⟨_, _, rfl⟩ mlX11_238 dX11_takings_41 (kX5_keepOf G _ _ _ _) (fun _ hr => cX5_keepOfk hr) ⟨Nat.le_of_ble_eq_true rfl, Nat.le_of_ble_eq_true rfl⟩ ⟨Nat.le_refl _, Nat.le_refl _⟩ rfl (Nat.le_of_ble_eq_true rfl) (fun _ σ8 _ => ?_)
        refine hj_aload_n 0 dX11_takings_44 rfl ?_
        refine hj_getR flX11_97 dX11_takings_45 (fun t9 _ => ?_)
        refine hj_iload_n 2 dX11_takings_48 rfl ?_
        refine hj_aload_n 0 dX11_takings_49 rfl ?_
        refine hj_getR flX11_58 dX11_takings_50 (fun t10 _ => ?_)
        refine hj_aload_n 0 dX11_takings_53 rfl ?_
        refine hj_getR flX11_27 dX11_takings_54 (fun t11 _ => ?_)
        refine hj_aload_n 0 dX11_takings_57 rfl ?_
        refine hj_getR flX11_50 dX11_takings_58 (fun t12 _ => ?_)
        refine hj_callV (ci := 0) (M' := mX0_allStand) (h' := 5) (As := [.ref t11, .ref t12]) mfX0_allStand mvX0_allStand ⟨_, _, rfl⟩ mlX11_183 dX11_takings_61 (kX0_allStand G _ _ _ _) (fun _ hr => cX0_allStandk hr) ⟨Nat.le_of_ble_eq_true rfl, Nat.le_of_ble_eq_true rfl⟩ ⟨Nat.le_refl _, Nat.le_refl _⟩ rfl (Nat.le_of_ble_eq_true rfl) (fun r14 σ13 _ => ?_)
        refine hj_if_eq 75 dX11_takings_64 (by decide) (fun _ => ?_) (fun _ => ?_)
        · refine hj_iconst (0 : Int32) dX11_takings_75 (by decide) ?_
          refine hj_loc (lv' := [(0, .ref x0), (1, .int x1), (2, .int x2)]) [0, 1, 2] rfl ?_
          exact sX11_takings_b76 ih _ _ _ _ _ _ _
        · refine hj_aload_n 0 dX11_takings_67 rfl ?_
          refine hj_iload_n 2 dX11_takings_68 rfl ?_
          refine hj_callV (ci := 11) (M' := mX11_waysOn) (h' := 1) (As := [.int x2]) mfX11_waysOn mvX11_waysOn ⟨_, _, rfl⟩ mlX11_242 dX11_takings_69 (kX11_waysOn G _ _ _) (fun _ hr => cX11_waysOnk hr) ⟨Nat.le_of_ble_eq_true rfl, Nat.le_of_ble_eq_true rfl⟩ ⟨Nat.le_refl _, Nat.le_refl _⟩ rfl (Nat.le_of_ble_eq_true rfl) (fun r16 σ15 _ => ?_)
          refine hj_goto 76 dX11_takings_72 (by decide) ?_
          refine hj_loc (lv' := [(0, .ref x0), (1, .int x1), (2, .int x2)]) [0, 1, 2] rfl ?_
          exact sX11_takings_b76 ih _ _ _ _ _ _ _
def fX11_takings (a0 : Nat) (σ : Sto) : Option (Int32 × Sto) := ck σ 11 a0 ((gR σ 11 a0 6).bind fun t17 => ((gI σ 5 t17 0).bind fun t18 => (lt ((((((1 : Int32)) <<< (t18 &&& 31))) - ((1 : Int32)))) fun v19 => ((gR σ 11 a0 14).bind fun t20 => ((sI σ 2 t20 ((0 : Int32)) ((1 : Int32))).bind fun σ21 => (fX11_takings_b21 FU a0 v19 ((1 : Int32)) σ21))))))
set_option maxHeartbeats 2000000 in
theorem kX11_takings (G : GP) (a0 : Nat) (σ : Sto) : Me G mX11_takings 6 0 0 jI [.ref a0] σ (fX11_takings a0 σ) := by
  refine hs_me (lv := [(0, .ref a0)]) (plainFor_of_name (by decide +kernel)) (Nat.le_of_ble_eq_true rfl) rfl ?_
  unfold fX11_takings
  refine hj_ck ?_
  refine hj_iconst (1 : Int32) dX11_takings_0 (by decide) ?_
  refine hj_aload_n 0 dX11_takings_1 rfl ?_
  refine hj_getR flX11_46 dX11_takings_2 (fun t17 _ => ?_)
  refine hj_getI flX11_210 dX11_takings_5 (fun t18 _ => ?_)
  refine hj_ishl dX11_takings_8 ?_
  refine hj_iconst (1 : Int32) dX11_takings_9 (by decide) ?_
  refine hj_isub dX11_takings_10 ?_
  refine hj_ltI (fun v19 _ => ?_)
  refine hj_istore_n (lv' := [(0, .ref a0), (1, .int v19)]) dX11_takings_11 (by decide) [1, 0] rfl ?_
  refine hj_aload_n 0 dX11_takings_12 rfl ?_
  refine hj_getR flX11_97 dX11_takings_13 (fun t20 _ => ?_)
  refine hj_iconst (0 : Int32) dX11_takings_16 (by decide) ?_
  refine hj_iconst (1 : Int32) dX11_takings_17 (by decide) ?_
  refine hj_iast dX11_takings_18 (fun σ21 _ => ?_)
  refine hj_iconst (1 : Int32) dX11_takings_19 (by decide) ?_
  refine hj_istore_n (lv' := [(0, .ref a0), (1, .int v19), (2, .int (1 : Int32))]) dX11_takings_20 (by decide) [1, 2, 0] rfl ?_
  refine hj_loc (lv' := [(0, .ref a0), (1, .int v19), (2, .int (1 : Int32))]) [0, 1, 2] rfl ?_
  exact sX11_takings_b21 _ _ _ _ _
theorem cX11_takingsk {a0 : Nat} {σ : Sto} {r : Int32 × Sto} (h : fX11_takings a0 σ = some r) : ∃ fs, hs_o σ 11 a0 = some fs := (ck_of h).1
def fX11_slides_b58 : Nat → Nat → Int32 → Int32 → Int32 → Sto → Option (Int32 × Sto)
  | 0, _, _, _, _, _ => none
  | n + 1, x0, x1, x3, x4, σ => (if (200 : Int32) < x4 then (some ((x3 * ((200 : Int32))), σ)) else ((gR σ 11 x0 7).bind fun t1 => (cb (fX5_shift t1 x1 x3 σ) fun _ σ2 => ((gR σ2 11 x0 8).bind fun t3 => ((gR σ2 11 x0 3).bind fun t4 => ((gR σ2 11 x0 7).bind fun t5 => (cb (fX0_allStand t3 t4 t5 σ2) fun r7 σ6 => (if r7 = 0 then (some ((x3 * ((x4 - ((1 : Int32))))), σ6)) else (fX11_slides_b58 n x0 x1 x3 (x4 + (1 : Int32)) σ6)))))))))
set_option maxHeartbeats 2000000 in
theorem sX11_slides_b58 {G : GP} {n0 : Nat} : ∀ (n : Nat) (x0 : Nat) (x1 : Int32) (x3 : Int32) (x4 : Int32) (σ : Sto), Sim G mX11_slides 6 0 0 n0 jI 0 0 58 [(0, .ref x0), (1, .int x1), (3, .int x3), (4, .int x4)] [] σ (fX11_slides_b58 n x0 x1 x3 x4 σ) := by
  intro n
  induction n with
  | zero => intros; rw [fX11_slides_b58]; exact hj_none
  | succ n ih =>
    intro x0 x1 x3 x4 σ
    rw [fX11_slides_b58]
    refine hj_iload 3 dX11_slides_58 rfl ?_
    refine hj_sipush (200 : Int32) dX11_slides_60 (by decide) ?_
    refine hj_icmp_gt 106 dX11_slides_63 (by decide) (fun _ => ?_) (fun _ => ?_)
    · refine hj_iload_n 2 dX11_slides_106 rfl ?_
      refine hj_sipush (200 : Int32) dX11_slides_107 (by decide) ?_
      refine hj_imul dX11_slides_110 ?_
      exact hj_iret dX11_slides_111 rfl rfl (Nat.le_refl _)
    · refine hj_aload_n 0 dX11_slides_66 rfl ?_
      refine hj_getR flX11_50 dX11_slides_67 (fun t1 _ => ?_)
      refine hj_iload_n 1 dX11_slides_70 rfl ?_
      refine hj_iload_n 2 dX11_slides_71 rfl ?_
      refine hj_callV (ci := 5) (M' := mX5_shift) (h' := 2) (As := [.int x1, .int x3]) mfX5_shift mvX5_shift ⟨_, _, rfl⟩ mlX11_214 dX11_slides_72 (kX5_shift G _ _ _ _) (fun _ hr => cX5_shiftk hr) ⟨Nat.le_of_ble_eq_true rfl, Nat.le_of_ble_eq_true rfl⟩ ⟨Nat.le_refl _, Nat.le_refl _⟩ rfl (Nat.le_of_ble_eq_true rfl) (fun _ σ2 _ => ?_)
      refine hj_aload_n 0 dX11_slides_75 rfl ?_
      refine hj_getR flX11_58 dX11_slides_76 (fun t3 _ => ?_)
      refine hj_aload_n 0 dX11_slides_79 rfl ?_
      refine hj_getR flX11_27 dX11_slides_80 (fun t4 _ => ?_)
      refine hj_aload_n 0 dX11_slides_83 rfl ?_
      refine hj_getR flX11_50 dX11_slides_84 (fun t5 _ => ?_)
      refine hj_callV (ci := 0) (M' := mX0_allStand) (h' := 5) (As := [.ref t4, .ref t5]) mfX0_allStand mvX0_allStand ⟨_, _, rfl⟩ mlX11_183 dX11_slides_87 (kX0_allStand G _ _ _ _) (fun _ hr => cX0_allStandk hr) ⟨Nat.le_of_ble_eq_true rfl, Nat.le_of_ble_eq_true rfl⟩ ⟨Nat.le_refl _, Nat.le_refl _⟩ rfl (Nat.le_of_ble_eq_true rfl) (fun r7 σ6 _ => ?_)
      refine hj_if_ne 100 dX11_slides_90 (by decide) (fun _ => ?_) (fun _ => ?_)
      · refine hj_iinc (lv' := [(0, .ref x0), (1, .int x1), (3, .int x3), (4, .int (x4 + (1 : Int32)))]) 3 (1 : Int32) dX11_slides_100 rfl (by decide) (by decide) [1, 2, 3, 0] rfl ?_
        refine hj_goto 58 dX11_slides_103 (by decide) ?_
        refine hj_loc (lv' := [(0, .ref x0), (1, .int x1), (3, .int x3), (4, .int (x4 + (1 : Int32)))]) [0, 1, 2, 3] rfl ?_
        exact ih _ _ _ _ _
      · refine hj_iload_n 2 dX11_slides_93 rfl ?_
        refine hj_iload 3 dX11_slides_94 rfl ?_
        refine hj_iconst (1 : Int32) dX11_slides_96 (by decide) ?_
        refine hj_isub dX11_slides_97 ?_
        refine hj_imul dX11_slides_98 ?_
        exact hj_iret dX11_slides_99 rfl rfl (Nat.le_refl _)
def fX11_slides_b54 (x0 : Nat) (x1 : Int32) (y0 : Int32) (σ : Sto) : Option (Int32 × Sto) := (fX11_slides_b58 FU x0 x1 y0 ((1 : Int32)) σ)
set_option maxHeartbeats 2000000 in
theorem sX11_slides_b54 {G : GP} {n0 : Nat} : ∀ (x0 : Nat) (x1 : Int32) (y0 : Int32) (σ : Sto), Sim G mX11_slides 6 0 0 n0 jI 0 0 54 [(0, .ref x0), (1, .int x1)] [.int y0] σ (fX11_slides_b54 x0 x1 y0 σ) := by
  intro x0 x1 y0 σ
  unfold fX11_slides_b54
  refine hj_istore_n (lv' := [(0, .ref x0), (1, .int x1), (3, .int y0)]) dX11_slides_54 (by decide) [1, 2, 0] rfl ?_
  refine hj_iconst (1 : Int32) dX11_slides_55 (by decide) ?_
  refine hj_istore (lv' := [(0, .ref x0), (1, .int x1), (3, .int y0), (4, .int (1 : Int32))]) dX11_slides_56 (by decide) [1, 2, 3, 0] rfl ?_
  refine hj_loc (lv' := [(0, .ref x0), (1, .int x1), (3, .int y0), (4, .int (1 : Int32))]) [0, 1, 2, 3] rfl ?_
  exact sX11_slides_b58 _ _ _ _ _ _
def fX11_slides (a0 : Nat) (a1 : Int32) (a2 : Int32) (σ : Sto) : Option (Int32 × Sto) := ck σ 11 a0 (cb (fX11_isLevel a0 a1 σ) fun r9 σ8 => (if r9 = 0 then (some ((-1000 : Int32), σ8)) else ((gR σ8 11 a0 7).bind fun t10 => ((gR σ8 11 a0 6).bind fun t11 => (cb (fX5_copyFrom t10 t11 σ8) fun _ σ12 => ((gR σ12 11 a0 8).bind fun t13 => ((gR σ12 11 a0 3).bind fun t14 => ((gR σ12 11 a0 7).bind fun t15 => (cb (fX0_allStand t13 t14 t15 σ12) fun r17 σ16 => (if r17 = 0 then (some ((-2000 : Int32), σ16)) else (if a2 = 0 then (fX11_slides_b54 a0 a1 ((-1 : Int32)) σ16) else (fX11_slides_b54 a0 a1 ((1 : Int32)) σ16))))))))))))
set_option maxHeartbeats 2000000 in
theorem kX11_slides (G : GP) (a0 : Nat) (a1 : Int32) (a2 : Int32) (σ : Sto) : Me G mX11_slides 6 0 0 jI [.ref a0, .int a1, .int a2] σ (fX11_slides a0 a1 a2 σ) := by
  refine hs_me (lv := [(0, .ref a0), (1, .int a1), (2, .int a2)]) (plainFor_of_name (by decide +kernel)) (Nat.le_of_ble_eq_true rfl) rfl ?_
  unfold fX11_slides
  refine hj_ck ?_
  refine hj_aload_n 0 dX11_slides_0 rfl ?_
  refine hj_iload_n 1 dX11_slides_1 rfl ?_
  refine hj_callV (ci := 11) (M' := mX11_isLevel) (h' := 1) (As := [.int a1]) mfX11_isLevel mvX11_isLevel ⟨_, _, rfl⟩ mlX11_156 dX11_slides_2 (kX11_isLevel G _ _ _) (fun _ hr => cX11_isLevelk hr) ⟨Nat.le_of_ble_eq_true rfl, Nat.le_of_ble_eq_true rfl⟩ ⟨Nat.le_refl _, Nat.le_refl _⟩ rfl (Nat.le_of_ble_eq_true rfl) (fun r9 σ8 _ => ?_)
  refine hj_if_ne 12 dX11_slides_5 (by decide) (fun _ => ?_) (fun _ => ?_)
  · refine hj_aload_n 0 dX11_slides_12 rfl ?_
    refine hj_getR flX11_50 dX11_slides_13 (fun t10 _ => ?_)
    refine hj_aload_n 0 dX11_slides_16 rfl ?_
    refine hj_getR flX11_46 dX11_slides_17 (fun t11 _ => ?_)
    refine hj_callV (ci := 5) (M' := mX5_copyFrom) (h' := 2) (As := [.ref t11]) mfX5_copyFrom mvX5_copyFrom ⟨_, _, rfl⟩ mlX11_117 dX11_slides_20 (kX5_copyFrom G _ _ _) (fun _ hr => cX5_copyFromk hr) ⟨Nat.le_of_ble_eq_true rfl, Nat.le_of_ble_eq_true rfl⟩ ⟨Nat.le_refl _, Nat.le_refl _⟩ rfl (Nat.le_of_ble_eq_true rfl) (fun _ σ12 _ => ?_)
    refine hj_aload_n 0 dX11_slides_23 rfl ?_
    refine hj_getR flX11_58 dX11_slides_24 (fun t13 _ => ?_)
    refine hj_aload_n 0 dX11_slides_27 rfl ?_
    refine hj_getR flX11_27 dX11_slides_28 (fun t14 _ => ?_)
    refine hj_aload_n 0 dX11_slides_31 rfl ?_
    refine hj_getR flX11_50 dX11_slides_32 (fun t15 _ => ?_)
    refine hj_callV (ci := 0) (M' := mX0_allStand) (h' := 5) (As := [.ref t14, .ref t15]) mfX0_allStand mvX0_allStand ⟨_, _, rfl⟩ mlX11_183 dX11_slides_35 (kX0_allStand G _ _ _ _) (fun _ hr => cX0_allStandk hr) ⟨Nat.le_of_ble_eq_true rfl, Nat.le_of_ble_eq_true rfl⟩ ⟨Nat.le_refl _, Nat.le_refl _⟩ rfl (Nat.le_of_ble_eq_true rfl) (fun r17 σ16 _ => ?_)
    refine hj_if_ne 45 dX11_slides_38 (by decide) (fun _ => ?_) (fun _ => ?_)
    · refine hj_iload_n 2 dX11_slides_45 rfl ?_
      refine hj_if_eq 53 dX11_slides_46 (by decide) (fun _ => ?_) (fun _ => ?_)
      · refine hj_iconst (-1 : Int32) dX11_slides_53 (by decide) ?_
        refine hj_loc (lv' := [(0, .ref a0), (1, .int a1)]) [0, 1] rfl ?_
        exact sX11_slides_b54 _ _ _ _
      · refine hj_iconst (1 : Int32) dX11_slides_49 (by decide) ?_
        refine hj_goto 54 dX11_slides_50 (by decide) ?_
        refine hj_loc (lv' := [(0, .ref a0), (1, .int a1)]) [0, 1] rfl ?_
        exact sX11_slides_b54 _ _ _ _
    · refine hj_sipush (-2000 : Int32) dX11_slides_41 (by decide) ?_
      exact hj_iret dX11_slides_44 rfl rfl (Nat.le_refl _)
  · refine hj_sipush (-1000 : Int32) dX11_slides_8 (by decide) ?_
    exact hj_iret dX11_slides_11 rfl rfl (Nat.le_refl _)
theorem cX11_slidesk {a0 : Nat} {a1 : Int32} {a2 : Int32} {σ : Sto} {r : Int32 × Sto} (h : fX11_slides a0 a1 a2 σ = some r) : ∃ fs, hs_o σ 11 a0 = some fs := (ck_of h).1
def fX11_out (a0 : Nat) (a1 : Int32) (σ : Sto) : Option (Int32 × Sto) := ck σ 11 a0 (cb (fX11_isLevel a0 a1 σ) fun r2 σ1 => (if r2 = 0 then (some ((-1 : Int32), σ1)) else ((gR σ1 11 a0 6).bind fun t3 => ((gI σ1 5 t3 0).bind fun t4 => (lt ((((((1 : Int32)) <<< (t4 &&& 31))) - ((1 : Int32)))) fun v5 => ((gR σ1 11 a0 7).bind fun t6 => ((gR σ1 11 a0 6).bind fun t7 => (cb (fX5_keepOf t6 t7 ((v5 &&& ((((((1 : Int32)) <<< (a1 &&& 31))) ^^^ ((-1 : Int32)))))) σ1) fun _ σ8 => ((gR σ8 11 a0 8).bind fun t9 => ((gR σ8 11 a0 3).bind fun t10 => ((gR σ8 11 a0 7).bind fun t11 => (cb (fX0_allStand t9 t10 t11 σ8) fun r13 σ12 => (if r13 = 0 then (some ((0 : Int32), σ12)) else (some ((1 : Int32), σ12)))))))))))))))
set_option maxHeartbeats 2000000 in
theorem kX11_out (G : GP) (a0 : Nat) (a1 : Int32) (σ : Sto) : Me G mX11_out 6 0 0 jI [.ref a0, .int a1] σ (fX11_out a0 a1 σ) := by
  refine hs_me (lv := [(0, .ref a0), (1, .int a1)]) (plainFor_of_name (by decide +kernel)) (Nat.le_of_ble_eq_true rfl) rfl ?_
  unfold fX11_out
  refine hj_ck ?_
  refine hj_aload_n 0 dX11_out_0 rfl ?_
  refine hj_iload_n 1 dX11_out_1 rfl ?_
  refine hj_callV (ci := 11) (M' := mX11_isLevel) (h' := 1) (As := [.int a1]) mfX11_isLevel mvX11_isLevel ⟨_, _, rfl⟩ mlX11_156 dX11_out_2 (kX11_isLevel G _ _ _) (fun _ hr => cX11_isLevelk hr) ⟨Nat.le_of_ble_eq_true rfl, Nat.le_of_ble_eq_true rfl⟩ ⟨Nat.le_refl _, Nat.le_refl _⟩ rfl (Nat.le_of_ble_eq_true rfl) (fun r2 σ1 _ => ?_)
  refine hj_if_ne 10 dX11_out_5 (by decide) (fun _ => ?_) (fun _ => ?_)
  · refine hj_iconst (1 : Int32) dX11_out_10 (by decide) ?_
    refine hj_aload_n 0 dX11_out_11 rfl ?_
    refine hj_getR flX11_46 dX11_out_12 (fun t3 _ => ?_)
    refine hj_getI flX11_210 dX11_out_15 (fun t4 _ => ?_)
    refine hj_ishl dX11_out_18 ?_
    refine hj_iconst (1 : Int32) dX11_out_19 (by decide) ?_
    refine hj_isub dX11_out_20 ?_
    refine hj_ltI (fun v5 _ => ?_)
    refine hj_istore_n (lv' := [(0, .ref a0), (1, .int a1), (2, .int v5)]) dX11_out_21 (by decide) [1, 2, 0] rfl ?_
    refine hj_aload_n 0 dX11_out_22 rfl ?_
    refine hj_getR flX11_50 dX11_out_23 (fun t6 _ => ?_)
    refine hj_aload_n 0 dX11_out_26 rfl ?_
    refine hj_getR flX11_46 dX11_out_27 (fun t7 _ => ?_)
    refine hj_iload_n 2 dX11_out_30 rfl ?_
    refine hj_iconst (1 : Int32) dX11_out_31 (by decide) ?_
    refine hj_iload_n 1 dX11_out_32 rfl ?_
    refine hj_ishl dX11_out_33 ?_
    refine hj_iconst (-1 : Int32) dX11_out_34 (by decide) ?_
    refine hj_ixor dX11_out_35 ?_
    refine hj_iand dX11_out_36 ?_
    refine hj_callV (ci := 5) (M' := mX5_keepOf) (h' := 2) (As := [.ref t7, .int ((v5 &&& ((((((1 : Int32)) <<< (a1 &&& 31))) ^^^ ((-1 : Int32))))))]) mfX5_keepOf mvX5_keepOf ⟨_, _, rfl⟩ mlX11_238 dX11_out_37 (kX5_keepOf G _ _ _ _) (fun _ hr => cX5_keepOfk hr) ⟨Nat.le_of_ble_eq_true rfl, Nat.le_of_ble_eq_true rfl⟩ ⟨Nat.le_refl _, Nat.le_refl _⟩ rfl (Nat.le_of_ble_eq_true rfl) (fun _ σ8 _ => ?_)
    refine hj_aload_n 0 dX11_out_40 rfl ?_
    refine hj_getR flX11_58 dX11_out_41 (fun t9 _ => ?_)
    refine hj_aload_n 0 dX11_out_44 rfl ?_
    refine hj_getR flX11_27 dX11_out_45 (fun t10 _ => ?_)
    refine hj_aload_n 0 dX11_out_48 rfl ?_
    refine hj_getR flX11_50 dX11_out_49 (fun t11 _ => ?_)
    refine hj_callV (ci := 0) (M' := mX0_allStand) (h' := 5) (As := [.ref t10, .ref t11]) mfX0_allStand mvX0_allStand ⟨_, _, rfl⟩ mlX11_183 dX11_out_52 (kX0_allStand G _ _ _ _) (fun _ hr => cX0_allStandk hr) ⟨Nat.le_of_ble_eq_true rfl, Nat.le_of_ble_eq_true rfl⟩ ⟨Nat.le_refl _, Nat.le_refl _⟩ rfl (Nat.le_of_ble_eq_true rfl) (fun r13 σ12 _ => ?_)
    refine hj_if_eq 62 dX11_out_55 (by decide) (fun _ => ?_) (fun _ => ?_)
    · refine hj_iconst (0 : Int32) dX11_out_62 (by decide) ?_
      exact hj_iret dX11_out_63 rfl rfl (Nat.le_refl _)
    · refine hj_iconst (1 : Int32) dX11_out_58 (by decide) ?_
      refine hj_goto 63 dX11_out_59 (by decide) ?_
      exact hj_iret dX11_out_63 rfl rfl (Nat.le_refl _)
  · refine hj_iconst (-1 : Int32) dX11_out_8 (by decide) ?_
    exact hj_iret dX11_out_9 rfl rfl (Nat.le_refl _)
theorem cX11_outk {a0 : Nat} {a1 : Int32} {σ : Sto} {r : Int32 × Sto} (h : fX11_out a0 a1 σ = some r) : ∃ fs, hs_o σ 11 a0 = some fs := (ck_of h).1
def fX11_reach (a0 : Nat) (a1 : Int32) (a2 : Int32) (σ : Sto) : Option (Int64 × Sto) := ck σ 11 a0 ((gR σ 11 a0 12).bind fun t1 => ((gR σ 11 a0 3).bind fun t2 => ((gR σ 11 a0 13).bind fun t3 => (cb (fX2_measure t1 t2 a1 t3 σ) fun r5 σ4 => (if r5 = 0 then (some ((-1 : Int64), σ4)) else ((gR σ4 11 a0 13).bind fun t6 => (cb (fX6_part t6 a2 σ4) fun r8 σ7 => (some (r8, σ7)))))))))
set_option maxHeartbeats 2000000 in
theorem kX11_reach (G : GP) (a0 : Nat) (a1 : Int32) (a2 : Int32) (σ : Sto) : Me G mX11_reach 5 0 0 jL [.ref a0, .int a1, .int a2] σ (fX11_reach a0 a1 a2 σ) := by
  refine hs_me (lv := [(0, .ref a0), (1, .int a1), (2, .int a2)]) (plainFor_of_name (by decide +kernel)) (Nat.le_of_ble_eq_true rfl) rfl ?_
  unfold fX11_reach
  refine hj_ck ?_
  refine hj_aload_n 0 dX11_reach_0 rfl ?_
  refine hj_getR flX11_86 dX11_reach_1 (fun t1 _ => ?_)
  refine hj_aload_n 0 dX11_reach_4 rfl ?_
  refine hj_getR flX11_27 dX11_reach_5 (fun t2 _ => ?_)
  refine hj_iload_n 1 dX11_reach_8 rfl ?_
  refine hj_aload_n 0 dX11_reach_9 rfl ?_
  refine hj_getR flX11_93 dX11_reach_10 (fun t3 _ => ?_)
  refine hj_callV (ci := 2) (M' := mX2_measure) (h' := 4) (As := [.ref t2, .int a1, .ref t3]) mfX2_measure mvX2_measure ⟨_, _, rfl⟩ mlX11_245 dX11_reach_13 (kX2_measure G _ _ _ _ _) (fun _ hr => cX2_measurek hr) ⟨Nat.le_of_ble_eq_true rfl, Nat.le_of_ble_eq_true rfl⟩ ⟨Nat.le_refl _, Nat.le_refl _⟩ rfl (Nat.le_of_ble_eq_true rfl) (fun r5 σ4 _ => ?_)
  refine hj_if_eq 30 dX11_reach_16 (by decide) (fun _ => ?_) (fun _ => ?_)
  · refine hj_ldc2 (-1 : Int64) kcX11_249 dX11_reach_30 ?_
    exact hj_lret dX11_reach_33 rfl rfl (Nat.le_refl _)
  · refine hj_aload_n 0 dX11_reach_19 rfl ?_
    refine hj_getR flX11_93 dX11_reach_20 (fun t6 _ => ?_)
    refine hj_iload_n 2 dX11_reach_23 rfl ?_
    refine hj_callV (ci := 6) (M' := mX6_part) (h' := 1) (As := [.int a2]) mfX6_part mvX6_part ⟨_, _, rfl⟩ mlX11_179 dX11_reach_24 (kX6_part G _ _ _) (fun _ hr => cX6_partk hr) ⟨Nat.le_of_ble_eq_true rfl, Nat.le_of_ble_eq_true rfl⟩ ⟨Nat.le_refl _, Nat.le_refl _⟩ rfl (Nat.le_of_ble_eq_true rfl) (fun r8 σ7 _ => ?_)
    refine hj_goto 33 dX11_reach_27 (by decide) ?_
    exact hj_lret dX11_reach_33 rfl rfl (Nat.le_refl _)
theorem cX11_reachk {a0 : Nat} {a1 : Int32} {a2 : Int32} {σ : Sto} {r : Int64 × Sto} (h : fX11_reach a0 a1 a2 σ = some r) : ∃ fs, hs_o σ 11 a0 = some fs := (ck_of h).1
def fX11_bestOrder (a0 : Nat) (a1 : Int32) (σ : Sto) : Option (Int32 × Sto) := ck σ 11 a0 (if a1 ≤ 0 then (some ((-1 : Int32), σ)) else ((gR σ 11 a0 3).bind fun t1 => ((gI σ 10 t1 0).bind fun t2 => (if a1 < (((1 : Int32)) <<< (t2 &&& 31)) then ((gR σ 11 a0 12).bind fun t3 => ((gR σ 11 a0 3).bind fun t4 => (cb (fX2_findBest t3 t4 a1 σ) fun r6 σ5 => (some (r6, σ5))))) else (some ((-1 : Int32), σ))))))
set_option maxHeartbeats 2000000 in
theorem kX11_bestOrder (G : GP) (a0 : Nat) (a1 : Int32) (σ : Sto) : Me G mX11_bestOrder 6 0 0 jI [.ref a0, .int a1] σ (fX11_bestOrder a0 a1 σ) := by
  refine hs_me (lv := [(0, .ref a0), (1, .int a1)]) (plainFor_of_name (by decide +kernel)) (Nat.le_of_ble_eq_true rfl) rfl ?_
  unfold fX11_bestOrder
  refine hj_ck ?_
  refine hj_iload_n 1 dX11_bestOrder_0 rfl ?_
  refine hj_if_le 17 dX11_bestOrder_1 (by decide) (fun _ => ?_) (fun _ => ?_)
  · refine hj_iconst (-1 : Int32) dX11_bestOrder_17 (by decide) ?_
    exact hj_iret dX11_bestOrder_18 rfl rfl (Nat.le_refl _)
  · refine hj_iload_n 1 dX11_bestOrder_4 rfl ?_
    refine hj_iconst (1 : Int32) dX11_bestOrder_5 (by decide) ?_
    refine hj_aload_n 0 dX11_bestOrder_6 rfl ?_
    refine hj_getR flX11_27 dX11_bestOrder_7 (fun t1 _ => ?_)
    refine hj_getI flX11_251 dX11_bestOrder_10 (fun t2 _ => ?_)
    refine hj_ishl dX11_bestOrder_13 ?_
    refine hj_icmp_lt 19 dX11_bestOrder_14 (by decide) (fun _ => ?_) (fun _ => ?_)
    · refine hj_aload_n 0 dX11_bestOrder_19 rfl ?_
      refine hj_getR flX11_86 dX11_bestOrder_20 (fun t3 _ => ?_)
      refine hj_aload_n 0 dX11_bestOrder_23 rfl ?_
      refine hj_getR flX11_27 dX11_bestOrder_24 (fun t4 _ => ?_)
      refine hj_iload_n 1 dX11_bestOrder_27 rfl ?_
      refine hj_callV (ci := 2) (M' := mX2_findBest) (h' := 5) (As := [.ref t4, .int a1]) mfX2_findBest mvX2_findBest ⟨_, _, rfl⟩ mlX11_253 dX11_bestOrder_28 (kX2_findBest G _ _ _ _) (fun _ hr => cX2_findBestk hr) ⟨Nat.le_of_ble_eq_true rfl, Nat.le_of_ble_eq_true rfl⟩ ⟨Nat.le_refl _, Nat.le_refl _⟩ rfl (Nat.le_of_ble_eq_true rfl) (fun r6 σ5 _ => ?_)
      exact hj_iret dX11_bestOrder_31 rfl rfl (Nat.le_refl _)
    · refine hj_iconst (-1 : Int32) dX11_bestOrder_17 (by decide) ?_
      exact hj_iret dX11_bestOrder_18 rfl rfl (Nat.le_refl _)
theorem cX11_bestOrderk {a0 : Nat} {a1 : Int32} {σ : Sto} {r : Int32 × Sto} (h : fX11_bestOrder a0 a1 σ = some r) : ∃ fs, hs_o σ 11 a0 = some fs := (ck_of h).1
def fX11_alike_b51 (x0 : Nat) (x2 : Int32) (σ : Sto) : Option (Int64 × Sto) := ((gR σ 11 x0 13).bind fun t3 => (cb (fX6_part t3 x2 σ) fun r5 σ4 => (some (r5, σ4))))
set_option maxHeartbeats 2000000 in
theorem sX11_alike_b51 {G : GP} {n0 : Nat} : ∀ (x0 : Nat) (x2 : Int32) (σ : Sto), Sim G mX11_alike 4 0 0 n0 jL 0 0 51 [(0, .ref x0), (2, .int x2)] [] σ (fX11_alike_b51 x0 x2 σ) := by
  intro x0 x2 σ
  unfold fX11_alike_b51
  refine hj_aload_n 0 dX11_alike_51 rfl ?_
  refine hj_getR flX11_93 dX11_alike_52 (fun t3 _ => ?_)
  refine hj_iload_n 1 dX11_alike_55 rfl ?_
  refine hj_callV (ci := 6) (M' := mX6_part) (h' := 1) (As := [.int x2]) mfX6_part mvX6_part ⟨_, _, rfl⟩ mlX11_179 dX11_alike_56 (kX6_part G _ _ _) (fun _ hr => cX6_partk hr) ⟨Nat.le_of_ble_eq_true rfl, Nat.le_of_ble_eq_true rfl⟩ ⟨Nat.le_refl _, Nat.le_refl _⟩ rfl (Nat.le_of_ble_eq_true rfl) (fun r5 σ4 _ => ?_)
  exact hj_lret dX11_alike_59 rfl rfl (Nat.le_refl _)
def fX11_alike_b26 : Nat → Nat → Int32 → Int32 → Int32 → Sto → Option (Int64 × Sto)
  | 0, _, _, _, _, _ => none
  | n + 1, x0, x1, x2, x3, σ => (if x1 < x3 then (fX11_alike_b51 x0 x2 σ) else ((gR σ 11 x0 13).bind fun t1 => (cb (fX6_add t1 ((1 : Int64)) ((((2 : Int64)) * ((x3.toInt64)))) σ) fun _ σ2 => (fX11_alike_b26 n x0 x1 x2 (x3 + (1 : Int32)) σ2))))
set_option maxHeartbeats 2000000 in
theorem sX11_alike_b26 {G : GP} {n0 : Nat} : ∀ (n : Nat) (x0 : Nat) (x1 : Int32) (x2 : Int32) (x3 : Int32) (σ : Sto), Sim G mX11_alike 4 0 0 n0 jL 0 0 26 [(0, .ref x0), (1, .int x1), (2, .int x2), (3, .int x3)] [] σ (fX11_alike_b26 n x0 x1 x2 x3 σ) := by
  intro n
  induction n with
  | zero => intros; rw [fX11_alike_b26]; exact hj_none
  | succ n ih =>
    intro x0 x1 x2 x3 σ
    rw [fX11_alike_b26]
    refine hj_iload_n 3 dX11_alike_26 rfl ?_
    refine hj_iload_n 1 dX11_alike_27 rfl ?_
    refine hj_icmp_gt 51 dX11_alike_28 (by decide) (fun _ => ?_) (fun _ => ?_)
    · refine hj_loc (lv' := [(0, .ref x0), (2, .int x2)]) [0, 2] rfl ?_
      exact sX11_alike_b51 _ _ _
    · refine hj_aload_n 0 dX11_alike_31 rfl ?_
      refine hj_getR flX11_93 dX11_alike_32 (fun t1 _ => ?_)
      refine hj_lconst (1 : Int64) dX11_alike_35 (by decide) ?_
      refine hj_ldc2 (2 : Int64) kcX11_173 dX11_alike_36 ?_
      refine hj_iload_n 3 dX11_alike_39 rfl ?_
      refine hj_i2l dX11_alike_40 ?_
      refine hj_lmul dX11_alike_41 ?_
      refine hj_callV (ci := 6) (M' := mX6_add) (h' := 3) (As := [.long ((1 : Int64)), .long ((((2 : Int64)) * ((x3.toInt64))))]) mfX6_add mvX6_add ⟨_, _, rfl⟩ mlX11_257 dX11_alike_42 (kX6_add G _ _ _ _) (fun _ hr => cX6_addk hr) ⟨Nat.le_of_ble_eq_true rfl, Nat.le_of_ble_eq_true rfl⟩ ⟨Nat.le_refl _, Nat.le_refl _⟩ rfl (Nat.le_of_ble_eq_true rfl) (fun _ σ2 _ => ?_)
      refine hj_iinc (lv' := [(0, .ref x0), (1, .int x1), (2, .int x2), (3, .int (x3 + (1 : Int32)))]) 3 (1 : Int32) dX11_alike_45 rfl (by decide) (by decide) [1, 2, 3, 0] rfl ?_
      refine hj_goto 26 dX11_alike_48 (by decide) ?_
      refine hj_loc (lv' := [(0, .ref x0), (1, .int x1), (2, .int x2), (3, .int (x3 + (1 : Int32)))]) [0, 1, 2, 3] rfl ?_
      exact ih _ _ _ _ _
def fX11_alike (a0 : Nat) (a1 : Int32) (a2 : Int32) (σ : Sto) : Option (Int64 × Sto) := ck σ 11 a0 (if a1 < (1 : Int32) then (some ((-1 : Int64), σ)) else (if a1 ≤ (40 : Int32) then ((gR σ 11 a0 13).bind fun t6 => (cb (fX6_become t6 ((0 : Int64)) ((1 : Int64)) σ) fun _ σ7 => (fX11_alike_b26 FU a0 a1 a2 ((1 : Int32)) σ7))) else (some ((-1 : Int64), σ))))
set_option maxHeartbeats 2000000 in
theorem kX11_alike (G : GP) (a0 : Nat) (a1 : Int32) (a2 : Int32) (σ : Sto) : Me G mX11_alike 4 0 0 jL [.ref a0, .int a1, .int a2] σ (fX11_alike a0 a1 a2 σ) := by
  refine hs_me (lv := [(0, .ref a0), (1, .int a1), (2, .int a2)]) (plainFor_of_name (by decide +kernel)) (Nat.le_of_ble_eq_true rfl) rfl ?_
  unfold fX11_alike
  refine hj_ck ?_
  refine hj_iload_n 1 dX11_alike_0 rfl ?_
  refine hj_iconst (1 : Int32) dX11_alike_1 (by decide) ?_
  refine hj_icmp_lt 11 dX11_alike_2 (by decide) (fun _ => ?_) (fun _ => ?_)
  · refine hj_ldc2 (-1 : Int64) kcX11_249 dX11_alike_11 ?_
    exact hj_lret dX11_alike_14 rfl rfl (Nat.le_refl _)
  · refine hj_iload_n 1 dX11_alike_5 rfl ?_
    refine hj_bipush (40 : Int32) dX11_alike_6 (by decide) ?_
    refine hj_icmp_le 15 dX11_alike_8 (by decide) (fun _ => ?_) (fun _ => ?_)
    · refine hj_aload_n 0 dX11_alike_15 rfl ?_
      refine hj_getR flX11_93 dX11_alike_16 (fun t6 _ => ?_)
      refine hj_lconst (0 : Int64) dX11_alike_19 (by decide) ?_
      refine hj_lconst (1 : Int64) dX11_alike_20 (by decide) ?_
      refine hj_callV (ci := 6) (M' := mX6_become) (h' := 2) (As := [.long ((0 : Int64)), .long ((1 : Int64))]) mfX6_become mvX6_become ⟨_, _, rfl⟩ mlX11_175 dX11_alike_21 (kX6_become G _ _ _ _) (fun _ hr => cX6_becomek hr) ⟨Nat.le_of_ble_eq_true rfl, Nat.le_of_ble_eq_true rfl⟩ ⟨Nat.le_refl _, Nat.le_refl _⟩ rfl (Nat.le_of_ble_eq_true rfl) (fun _ σ7 _ => ?_)
      refine hj_iconst (1 : Int32) dX11_alike_24 (by decide) ?_
      refine hj_istore_n (lv' := [(0, .ref a0), (1, .int a1), (2, .int a2), (3, .int (1 : Int32))]) dX11_alike_25 (by decide) [1, 2, 3, 0] rfl ?_
      refine hj_loc (lv' := [(0, .ref a0), (1, .int a1), (2, .int a2), (3, .int (1 : Int32))]) [0, 1, 2, 3] rfl ?_
      exact sX11_alike_b26 _ _ _ _ _ _
    · refine hj_ldc2 (-1 : Int64) kcX11_249 dX11_alike_11 ?_
      exact hj_lret dX11_alike_14 rfl rfl (Nat.le_refl _)
theorem cX11_alikek {a0 : Nat} {a1 : Int32} {a2 : Int32} {σ : Sto} {r : Int64 × Sto} (h : fX11_alike a0 a1 a2 σ = some r) : ∃ fs, hs_o σ 11 a0 = some fs := (ck_of h).1
def fX11_needed_b34 : Nat → Nat → Int32 → Int32 → Int32 → Sto → Option (Int32 × Sto)
  | 0, _, _, _, _, _ => none
  | n + 1, x0, x1, x2, x3, σ => (if (40 : Int32) < x3 then (some ((-2 : Int32), σ)) else ((gR σ 11 x0 13).bind fun t1 => (cb (fX6_add t1 ((1 : Int64)) ((((2 : Int64)) * ((x3.toInt64)))) σ) fun _ σ2 => ((gR σ2 11 x0 13).bind fun t3 => ((gL σ2 6 t3 0).bind fun t4 => ((gR σ2 11 x0 13).bind fun t5 => ((gL σ2 6 t5 1).bind fun t6 => (if (lg_cmp ((t4 * ((x2.toInt64)))) ((((x1.toInt64)) * t6))) < 0 then (fX11_needed_b34 n x0 x1 x2 (x3 + (1 : Int32)) σ2) else (some (x3, σ2))))))))))
set_option maxHeartbeats 2000000 in
theorem sX11_needed_b34 {G : GP} {n0 : Nat} : ∀ (n : Nat) (x0 : Nat) (x1 : Int32) (x2 : Int32) (x3 : Int32) (σ : Sto), Sim G mX11_needed 4 0 0 n0 jI 0 0 34 [(0, .ref x0), (1, .int x1), (2, .int x2), (3, .int x3)] [] σ (fX11_needed_b34 n x0 x1 x2 x3 σ) := by
  intro n
  induction n with
  | zero => intros; rw [fX11_needed_b34]; exact hj_none
  | succ n ih =>
    intro x0 x1 x2 x3 σ
    rw [fX11_needed_b34]
    refine hj_iload_n 3 dX11_needed_34 rfl ?_
    refine hj_bipush (40 : Int32) dX11_needed_35 (by decide) ?_
    refine hj_icmp_gt 86 dX11_needed_37 (by decide) (fun _ => ?_) (fun _ => ?_)
    · refine hj_bipush (-2 : Int32) dX11_needed_86 (by decide) ?_
      exact hj_iret dX11_needed_88 rfl rfl (Nat.le_refl _)
    · refine hj_aload_n 0 dX11_needed_40 rfl ?_
      refine hj_getR flX11_93 dX11_needed_41 (fun t1 _ => ?_)
      refine hj_lconst (1 : Int64) dX11_needed_44 (by decide) ?_
      refine hj_ldc2 (2 : Int64) kcX11_173 dX11_needed_45 ?_
      refine hj_iload_n 3 dX11_needed_48 rfl ?_
      refine hj_i2l dX11_needed_49 ?_
      refine hj_lmul dX11_needed_50 ?_
      refine hj_callV (ci := 6) (M' := mX6_add) (h' := 3) (As := [.long ((1 : Int64)), .long ((((2 : Int64)) * ((x3.toInt64))))]) mfX6_add mvX6_add ⟨_, _, rfl⟩ mlX11_257 dX11_needed_51 (kX6_add G _ _ _ _) (fun _ hr => cX6_addk hr) ⟨Nat.le_of_ble_eq_true rfl, Nat.le_of_ble_eq_true rfl⟩ ⟨Nat.le_refl _, Nat.le_refl _⟩ rfl (Nat.le_of_ble_eq_true rfl) (fun _ σ2 _ => ?_)
      refine hj_aload_n 0 dX11_needed_54 rfl ?_
      refine hj_getR flX11_93 dX11_needed_55 (fun t3 _ => ?_)
      refine hj_getL flX11_260 dX11_needed_58 (fun t4 _ => ?_)
      refine hj_iload_n 2 dX11_needed_61 rfl ?_
      refine hj_i2l dX11_needed_62 ?_
      refine hj_lmul dX11_needed_63 ?_
      refine hj_iload_n 1 dX11_needed_64 rfl ?_
      refine hj_i2l dX11_needed_65 ?_
      refine hj_aload_n 0 dX11_needed_66 rfl ?_
      refine hj_getR flX11_93 dX11_needed_67 (fun t5 _ => ?_)
      refine hj_getL flX11_264 dX11_needed_70 (fun t6 _ => ?_)
      refine hj_lmul dX11_needed_73 ?_
      refine hj_lcmp dX11_needed_74 ?_
      refine hj_if_lt 80 dX11_needed_75 (by decide) (fun _ => ?_) (fun _ => ?_)
      · refine hj_iinc (lv' := [(0, .ref x0), (1, .int x1), (2, .int x2), (3, .int (x3 + (1 : Int32)))]) 3 (1 : Int32) dX11_needed_80 rfl (by decide) (by decide) [1, 2, 3, 0] rfl ?_
        refine hj_goto 34 dX11_needed_83 (by decide) ?_
        refine hj_loc (lv' := [(0, .ref x0), (1, .int x1), (2, .int x2), (3, .int (x3 + (1 : Int32)))]) [0, 1, 2, 3] rfl ?_
        exact ih _ _ _ _ _
      · refine hj_iload_n 3 dX11_needed_78 rfl ?_
        exact hj_iret dX11_needed_79 rfl rfl (Nat.le_refl _)
def fX11_needed (a0 : Nat) (a1 : Int32) (a2 : Int32) (σ : Sto) : Option (Int32 × Sto) := ck σ 11 a0 (if a1 < 0 then (some ((-1 : Int32), σ)) else (if (99 : Int32) < a1 then (some ((-1 : Int32), σ)) else (if a2 < (1 : Int32) then (some ((-1 : Int32), σ)) else (if a2 ≤ (99 : Int32) then ((gR σ 11 a0 13).bind fun t7 => (cb (fX6_become t7 ((0 : Int64)) ((1 : Int64)) σ) fun _ σ8 => (fX11_needed_b34 FU a0 a1 a2 ((1 : Int32)) σ8))) else (some ((-1 : Int32), σ))))))
set_option maxHeartbeats 2000000 in
theorem kX11_needed (G : GP) (a0 : Nat) (a1 : Int32) (a2 : Int32) (σ : Sto) : Me G mX11_needed 4 0 0 jI [.ref a0, .int a1, .int a2] σ (fX11_needed a0 a1 a2 σ) := by
  refine hs_me (lv := [(0, .ref a0), (1, .int a1), (2, .int a2)]) (plainFor_of_name (by decide +kernel)) (Nat.le_of_ble_eq_true rfl) rfl ?_
  unfold fX11_needed
  refine hj_ck ?_
  refine hj_iload_n 1 dX11_needed_0 rfl ?_
  refine hj_if_lt 21 dX11_needed_1 (by decide) (fun _ => ?_) (fun _ => ?_)
  · refine hj_iconst (-1 : Int32) dX11_needed_21 (by decide) ?_
    exact hj_iret dX11_needed_22 rfl rfl (Nat.le_refl _)
  · refine hj_iload_n 1 dX11_needed_4 rfl ?_
    refine hj_bipush (99 : Int32) dX11_needed_5 (by decide) ?_
    refine hj_icmp_gt 21 dX11_needed_7 (by decide) (fun _ => ?_) (fun _ => ?_)
    · refine hj_iconst (-1 : Int32) dX11_needed_21 (by decide) ?_
      exact hj_iret dX11_needed_22 rfl rfl (Nat.le_refl _)
    · refine hj_iload_n 2 dX11_needed_10 rfl ?_
      refine hj_iconst (1 : Int32) dX11_needed_11 (by decide) ?_
      refine hj_icmp_lt 21 dX11_needed_12 (by decide) (fun _ => ?_) (fun _ => ?_)
      · refine hj_iconst (-1 : Int32) dX11_needed_21 (by decide) ?_
        exact hj_iret dX11_needed_22 rfl rfl (Nat.le_refl _)
      · refine hj_iload_n 2 dX11_needed_15 rfl ?_
        refine hj_bipush (99 : Int32) dX11_needed_16 (by decide) ?_
        refine hj_icmp_le 23 dX11_needed_18 (by decide) (fun _ => ?_) (fun _ => ?_)
        · refine hj_aload_n 0 dX11_needed_23 rfl ?_
          refine hj_getR flX11_93 dX11_needed_24 (fun t7 _ => ?_)
          refine hj_lconst (0 : Int64) dX11_needed_27 (by decide) ?_
          refine hj_lconst (1 : Int64) dX11_needed_28 (by decide) ?_
          refine hj_callV (ci := 6) (M' := mX6_become) (h' := 2) (As := [.long ((0 : Int64)), .long ((1 : Int64))]) mfX6_become mvX6_become ⟨_, _, rfl⟩ mlX11_175 dX11_needed_29 (kX6_become G _ _ _ _) (fun _ hr => cX6_becomek hr) ⟨Nat.le_of_ble_eq_true rfl, Nat.le_of_ble_eq_true rfl⟩ ⟨Nat.le_refl _, Nat.le_refl _⟩ rfl (Nat.le_of_ble_eq_true rfl) (fun _ σ8 _ => ?_)
          refine hj_iconst (1 : Int32) dX11_needed_32 (by decide) ?_
          refine hj_istore_n (lv' := [(0, .ref a0), (1, .int a1), (2, .int a2), (3, .int (1 : Int32))]) dX11_needed_33 (by decide) [1, 2, 3, 0] rfl ?_
          refine hj_loc (lv' := [(0, .ref a0), (1, .int a1), (2, .int a2), (3, .int (1 : Int32))]) [0, 1, 2, 3] rfl ?_
          exact sX11_needed_b34 _ _ _ _ _ _
        · refine hj_iconst (-1 : Int32) dX11_needed_21 (by decide) ?_
          exact hj_iret dX11_needed_22 rfl rfl (Nat.le_refl _)
theorem cX11_neededk {a0 : Nat} {a1 : Int32} {a2 : Int32} {σ : Sto} {r : Int32 × Sto} (h : fX11_needed a0 a1 a2 σ = some r) : ∃ fs, hs_o σ 11 a0 = some fs := (ck_of h).1
def fX11_see (a0 : Nat) (a1 : Int32) (σ : Sto) : Option (Int32 × Sto) := ck σ 11 a0 ((gR σ 11 a0 11).bind fun t1 => ((gR σ 11 a0 3).bind fun t2 => ((gR σ 11 a0 6).bind fun t3 => (cb (fX1_note t1 t2 t3 a1 σ) fun r5 σ4 => (some (r5, σ4))))))
set_option maxHeartbeats 2000000 in
theorem kX11_see (G : GP) (a0 : Nat) (a1 : Int32) (σ : Sto) : Me G mX11_see 5 0 0 jI [.ref a0, .int a1] σ (fX11_see a0 a1 σ) := by
  refine hs_me (lv := [(0, .ref a0), (1, .int a1)]) (plainFor_of_name (by decide +kernel)) (Nat.le_of_ble_eq_true rfl) rfl ?_
  unfold fX11_see
  refine hj_ck ?_
  refine hj_aload_n 0 dX11_see_0 rfl ?_
  refine hj_getR flX11_79 dX11_see_1 (fun t1 _ => ?_)
  refine hj_aload_n 0 dX11_see_4 rfl ?_
  refine hj_getR flX11_27 dX11_see_5 (fun t2 _ => ?_)
  refine hj_aload_n 0 dX11_see_8 rfl ?_
  refine hj_getR flX11_46 dX11_see_9 (fun t3 _ => ?_)
  refine hj_iload_n 1 dX11_see_12 rfl ?_
  refine hj_callV (ci := 1) (M' := mX1_note) (h' := 4) (As := [.ref t2, .ref t3, .int a1]) mfX1_note mvX1_note ⟨_, _, rfl⟩ mlX11_267 dX11_see_13 (kX1_note G _ _ _ _ _) (fun _ hr => cX1_notek hr) ⟨Nat.le_of_ble_eq_true rfl, Nat.le_of_ble_eq_true rfl⟩ ⟨Nat.le_refl _, Nat.le_refl _⟩ rfl (Nat.le_of_ble_eq_true rfl) (fun r5 σ4 _ => ?_)
  exact hj_iret dX11_see_16 rfl rfl (Nat.le_refl _)
theorem cX11_seek {a0 : Nat} {a1 : Int32} {σ : Sto} {r : Int32 × Sto} (h : fX11_see a0 a1 σ = some r) : ∃ fs, hs_o σ 11 a0 = some fs := (ck_of h).1
def fX11_forget (a0 : Nat) (σ : Sto) : Option (Int32 × Sto) := ck σ 11 a0 ((gR σ 11 a0 11).bind fun t1 => ((gI σ 1 t1 0).bind fun t2 => ((gR σ 11 a0 11).bind fun t3 => ((pV σ 1 t3 0 (.int ((0 : Int32)))).bind fun σ4 => (some (t2, σ4))))))
set_option maxHeartbeats 2000000 in
theorem kX11_forget (G : GP) (a0 : Nat) (σ : Sto) : Me G mX11_forget 1 0 0 jI [.ref a0] σ (fX11_forget a0 σ) := by
  refine hs_me (lv := [(0, .ref a0)]) (plainFor_of_name (by decide +kernel)) (Nat.le_of_ble_eq_true rfl) rfl ?_
  unfold fX11_forget
  refine hj_ck ?_
  refine hj_aload_n 0 dX11_forget_0 rfl ?_
  refine hj_getR flX11_79 dX11_forget_1 (fun t1 _ => ?_)
  refine hj_getI flX11_124 dX11_forget_4 (fun t2 _ => ?_)
  refine hj_istore_n (lv' := [(0, .ref a0), (1, .int t2)]) dX11_forget_7 (by decide) [1, 0] rfl ?_
  refine hj_aload_n 0 dX11_forget_8 rfl ?_
  refine hj_getR flX11_79 dX11_forget_9 (fun t3 _ => ?_)
  refine hj_iconst (0 : Int32) dX11_forget_12 (by decide) ?_
  refine hj_put (fpX11_124 _) (fun _ => rfl) (fun _ => rfl) dX11_forget_13 (fun σ4 _ => ?_)
  refine hj_iload_n 1 dX11_forget_16 rfl ?_
  exact hj_iret dX11_forget_17 rfl rfl (Nat.le_refl _)
theorem cX11_forgetk {a0 : Nat} {σ : Sto} {r : Int32 × Sto} (h : fX11_forget a0 σ = some r) : ∃ fs, hs_o σ 11 a0 = some fs := (ck_of h).1
def fX11_canFit (a0 : Nat) (a1 : Int32) (a2 : Int32) (σ : Sto) : Option (Int32 × Sto) := ck σ 11 a0 (if a1 < (1 : Int32) then (some ((0 : Int32), σ)) else (if (6 : Int32) < a1 then (some ((0 : Int32), σ)) else (if a2 < 0 then (some ((0 : Int32), σ)) else ((gR σ 11 a0 11).bind fun t1 => ((gI σ 1 t1 0).bind fun t2 => (if t2 < a2 then (some ((0 : Int32), σ)) else (some ((1 : Int32), σ))))))))
set_option maxHeartbeats 2000000 in
theorem kX11_canFit (G : GP) (a0 : Nat) (a1 : Int32) (a2 : Int32) (σ : Sto) : Me G mX11_canFit 1 0 0 jI [.ref a0, .int a1, .int a2] σ (fX11_canFit a0 a1 a2 σ) := by
  refine hs_me (lv := [(0, .ref a0), (1, .int a1), (2, .int a2)]) (plainFor_of_name (by decide +kernel)) (Nat.le_of_ble_eq_true rfl) rfl ?_
  unfold fX11_canFit
  refine hj_ck ?_
  refine hj_iload_n 1 dX11_canFit_0 rfl ?_
  refine hj_iconst (1 : Int32) dX11_canFit_1 (by decide) ?_
  refine hj_icmp_lt 30 dX11_canFit_2 (by decide) (fun _ => ?_) (fun _ => ?_)
  · refine hj_iconst (0 : Int32) dX11_canFit_30 (by decide) ?_
    exact hj_zret dX11_canFit_31 rfl (by decide) rfl (Nat.le_refl _)
  · refine hj_iload_n 1 dX11_canFit_5 rfl ?_
    refine hj_bipush (6 : Int32) dX11_canFit_6 (by decide) ?_
    refine hj_icmp_gt 30 dX11_canFit_8 (by decide) (fun _ => ?_) (fun _ => ?_)
    · refine hj_iconst (0 : Int32) dX11_canFit_30 (by decide) ?_
      exact hj_zret dX11_canFit_31 rfl (by decide) rfl (Nat.le_refl _)
    · refine hj_iload_n 2 dX11_canFit_11 rfl ?_
      refine hj_if_lt 30 dX11_canFit_12 (by decide) (fun _ => ?_) (fun _ => ?_)
      · refine hj_iconst (0 : Int32) dX11_canFit_30 (by decide) ?_
        exact hj_zret dX11_canFit_31 rfl (by decide) rfl (Nat.le_refl _)
      · refine hj_iload_n 2 dX11_canFit_15 rfl ?_
        refine hj_aload_n 0 dX11_canFit_16 rfl ?_
        refine hj_getR flX11_79 dX11_canFit_17 (fun t1 _ => ?_)
        refine hj_getI flX11_124 dX11_canFit_20 (fun t2 _ => ?_)
        refine hj_icmp_gt 30 dX11_canFit_23 (by decide) (fun _ => ?_) (fun _ => ?_)
        · refine hj_iconst (0 : Int32) dX11_canFit_30 (by decide) ?_
          exact hj_zret dX11_canFit_31 rfl (by decide) rfl (Nat.le_refl _)
        · refine hj_iconst (1 : Int32) dX11_canFit_26 (by decide) ?_
          refine hj_goto 31 dX11_canFit_27 (by decide) ?_
          exact hj_zret dX11_canFit_31 rfl (by decide) rfl (Nat.le_refl _)
theorem cX11_canFitk {a0 : Nat} {a1 : Int32} {a2 : Int32} {σ : Sto} {r : Int32 × Sto} (h : fX11_canFit a0 a1 a2 σ = some r) : ∃ fs, hs_o σ 11 a0 = some fs := (ck_of h).1
def fX11_fits (a0 : Nat) (a1 : Int32) (a2 : Int32) (σ : Sto) : Option (Int32 × Sto) := ck σ 11 a0 (cb (fX11_canFit a0 a1 a2 σ) fun r2 σ1 => (if r2 = 0 then (some ((-1 : Int32), σ1)) else ((gR σ1 11 a0 11).bind fun t3 => ((gR σ1 11 a0 3).bind fun t4 => ((gI σ1 10 t4 0).bind fun t5 => (cb (fX1_search t3 t5 a1 a2 σ1) fun _ σ6 => ((gR σ6 11 a0 11).bind fun t7 => ((gI σ6 1 t7 5).bind fun t8 => (some (t8, σ6))))))))))
set_option maxHeartbeats 2000000 in
theorem kX11_fits (G : GP) (a0 : Nat) (a1 : Int32) (a2 : Int32) (σ : Sto) : Me G mX11_fits 4 0 0 jI [.ref a0, .int a1, .int a2] σ (fX11_fits a0 a1 a2 σ) := by
  refine hs_me (lv := [(0, .ref a0), (1, .int a1), (2, .int a2)]) (plainFor_of_name (by decide +kernel)) (Nat.le_of_ble_eq_true rfl) rfl ?_
  unfold fX11_fits
  refine hj_ck ?_
  refine hj_aload_n 0 dX11_fits_0 rfl ?_
  refine hj_iload_n 1 dX11_fits_1 rfl ?_
  refine hj_iload_n 2 dX11_fits_2 rfl ?_
  refine hj_callV (ci := 11) (M' := mX11_canFit) (h' := 1) (As := [.int a1, .int a2]) mfX11_canFit mvX11_canFit ⟨_, _, rfl⟩ mlX11_270 dX11_fits_3 (kX11_canFit G _ _ _ _) (fun _ hr => cX11_canFitk hr) ⟨Nat.le_of_ble_eq_true rfl, Nat.le_of_ble_eq_true rfl⟩ ⟨Nat.le_refl _, Nat.le_refl _⟩ rfl (Nat.le_of_ble_eq_true rfl) (fun r2 σ1 _ => ?_)
  refine hj_if_ne 11 dX11_fits_6 (by decide) (fun _ => ?_) (fun _ => ?_)
  · refine hj_aload_n 0 dX11_fits_11 rfl ?_
    refine hj_getR flX11_79 dX11_fits_12 (fun t3 _ => ?_)
    refine hj_aload_n 0 dX11_fits_15 rfl ?_
    refine hj_getR flX11_27 dX11_fits_16 (fun t4 _ => ?_)
    refine hj_getI flX11_251 dX11_fits_19 (fun t5 _ => ?_)
    refine hj_iload_n 1 dX11_fits_22 rfl ?_
    refine hj_iload_n 2 dX11_fits_23 rfl ?_
    refine hj_callV (ci := 1) (M' := mX1_search) (h' := 3) (As := [.int t5, .int a1, .int a2]) mfX1_search mvX1_search ⟨_, _, rfl⟩ mlX11_273 dX11_fits_24 (kX1_search G _ _ _ _ _) (fun _ hr => cX1_searchk hr) ⟨Nat.le_of_ble_eq_true rfl, Nat.le_of_ble_eq_true rfl⟩ ⟨Nat.le_refl _, Nat.le_refl _⟩ rfl (Nat.le_of_ble_eq_true rfl) (fun _ σ6 _ => ?_)
    refine hj_aload_n 0 dX11_fits_27 rfl ?_
    refine hj_getR flX11_79 dX11_fits_28 (fun t7 _ => ?_)
    refine hj_getI flX11_277 dX11_fits_31 (fun t8 _ => ?_)
    exact hj_iret dX11_fits_34 rfl rfl (Nat.le_refl _)
  · refine hj_iconst (-1 : Int32) dX11_fits_9 (by decide) ?_
    exact hj_iret dX11_fits_10 rfl rfl (Nat.le_refl _)
theorem cX11_fitsk {a0 : Nat} {a1 : Int32} {a2 : Int32} {σ : Sto} {r : Int32 × Sto} (h : fX11_fits a0 a1 a2 σ = some r) : ∃ fs, hs_o σ 11 a0 = some fs := (ck_of h).1
def fX11_span (a0 : Nat) (a1 : Int32) (a2 : Int32) (a3 : Int32) (σ : Sto) : Option (Int32 × Sto) := ck σ 11 a0 (cb (fX11_canFit a0 a1 a2 σ) fun r2 σ1 => (if r2 = 0 then (some ((-1 : Int32), σ1)) else (cb (fX11_isBook a0 a3 σ1) fun r4 σ3 => (if r4 = 0 then (some ((-1 : Int32), σ3)) else ((gR σ3 11 a0 11).bind fun t5 => ((gR σ3 11 a0 3).bind fun t6 => ((gI σ3 10 t6 0).bind fun t7 => (cb (fX1_search t5 t7 a1 a2 σ3) fun _ σ8 => ((gR σ8 11 a0 11).bind fun t9 => ((gI σ8 1 t9 5).bind fun t10 => (if t10 = 0 then (some ((-2 : Int32), σ8)) else ((gR σ8 11 a0 11).bind fun t11 => ((gR σ8 1 t11 6).bind fun t12 => ((aI σ8 2 t12 a3).bind fun t13 => ((gR σ8 11 a0 11).bind fun t14 => ((gR σ8 1 t14 7).bind fun t15 => ((aI σ8 2 t15 a3).bind fun t16 => (some ((((((10 : Int32)) * t13)) + t16), σ8)))))))))))))))))))
set_option maxHeartbeats 2000000 in
theorem kX11_span (G : GP) (a0 : Nat) (a1 : Int32) (a2 : Int32) (a3 : Int32) (σ : Sto) : Me G mX11_span 4 0 0 jI [.ref a0, .int a1, .int a2, .int a3] σ (fX11_span a0 a1 a2 a3 σ) := by
  refine hs_me (lv := [(0, .ref a0), (1, .int a1), (2, .int a2), (3, .int a3)]) (plainFor_of_name (by decide +kernel)) (Nat.le_of_ble_eq_true rfl) rfl ?_
  unfold fX11_span
  refine hj_ck ?_
  refine hj_aload_n 0 dX11_span_0 rfl ?_
  refine hj_iload_n 1 dX11_span_1 rfl ?_
  refine hj_iload_n 2 dX11_span_2 rfl ?_
  refine hj_callV (ci := 11) (M' := mX11_canFit) (h' := 1) (As := [.int a1, .int a2]) mfX11_canFit mvX11_canFit ⟨_, _, rfl⟩ mlX11_270 dX11_span_3 (kX11_canFit G _ _ _ _) (fun _ hr => cX11_canFitk hr) ⟨Nat.le_of_ble_eq_true rfl, Nat.le_of_ble_eq_true rfl⟩ ⟨Nat.le_refl _, Nat.le_refl _⟩ rfl (Nat.le_of_ble_eq_true rfl) (fun r2 σ1 _ => ?_)
  refine hj_if_eq 17 dX11_span_6 (by decide) (fun _ => ?_) (fun _ => ?_)
  · refine hj_iconst (-1 : Int32) dX11_span_17 (by decide) ?_
    exact hj_iret dX11_span_18 rfl rfl (Nat.le_refl _)
  · refine hj_aload_n 0 dX11_span_9 rfl ?_
    refine hj_iload_n 3 dX11_span_10 rfl ?_
    refine hj_callV (ci := 11) (M' := mX11_isBook) (h' := 1) (As := [.int a3]) mfX11_isBook mvX11_isBook ⟨_, _, rfl⟩ mlX11_131 dX11_span_11 (kX11_isBook G _ _ _) (fun _ hr => cX11_isBookk hr) ⟨Nat.le_of_ble_eq_true rfl, Nat.le_of_ble_eq_true rfl⟩ ⟨Nat.le_refl _, Nat.le_refl _⟩ rfl (Nat.le_of_ble_eq_true rfl) (fun r4 σ3 _ => ?_)
    refine hj_if_ne 19 dX11_span_14 (by decide) (fun _ => ?_) (fun _ => ?_)
    · refine hj_aload_n 0 dX11_span_19 rfl ?_
      refine hj_getR flX11_79 dX11_span_20 (fun t5 _ => ?_)
      refine hj_aload_n 0 dX11_span_23 rfl ?_
      refine hj_getR flX11_27 dX11_span_24 (fun t6 _ => ?_)
      refine hj_getI flX11_251 dX11_span_27 (fun t7 _ => ?_)
      refine hj_iload_n 1 dX11_span_30 rfl ?_
      refine hj_iload_n 2 dX11_span_31 rfl ?_
      refine hj_callV (ci := 1) (M' := mX1_search) (h' := 3) (As := [.int t7, .int a1, .int a2]) mfX1_search mvX1_search ⟨_, _, rfl⟩ mlX11_273 dX11_span_32 (kX1_search G _ _ _ _ _) (fun _ hr => cX1_searchk hr) ⟨Nat.le_of_ble_eq_true rfl, Nat.le_of_ble_eq_true rfl⟩ ⟨Nat.le_refl _, Nat.le_refl _⟩ rfl (Nat.le_of_ble_eq_true rfl) (fun _ σ8 _ => ?_)
      refine hj_aload_n 0 dX11_span_35 rfl ?_
      refine hj_getR flX11_79 dX11_span_36 (fun t9 _ => ?_)
      refine hj_getI flX11_277 dX11_span_39 (fun t10 _ => ?_)
      refine hj_if_ne 48 dX11_span_42 (by decide) (fun _ => ?_) (fun _ => ?_)
      · refine hj_bipush (10 : Int32) dX11_span_48 (by decide) ?_
        refine hj_aload_n 0 dX11_span_50 rfl ?_
        refine hj_getR flX11_79 dX11_span_51 (fun t11 _ => ?_)
        refine hj_getR flX11_280 dX11_span_54 (fun t12 _ => ?_)
        refine hj_iload_n 3 dX11_span_57 rfl ?_
        refine hj_iald dX11_span_58 (fun t13 _ => ?_)
        refine hj_imul dX11_span_59 ?_
        refine hj_aload_n 0 dX11_span_60 rfl ?_
        refine hj_getR flX11_79 dX11_span_61 (fun t14 _ => ?_)
        refine hj_getR flX11_283 dX11_span_64 (fun t15 _ => ?_)
        refine hj_iload_n 3 dX11_span_67 rfl ?_
        refine hj_iald dX11_span_68 (fun t16 _ => ?_)
        refine hj_iadd dX11_span_69 ?_
        exact hj_iret dX11_span_70 rfl rfl (Nat.le_refl _)
      · refine hj_bipush (-2 : Int32) dX11_span_45 (by decide) ?_
        exact hj_iret dX11_span_47 rfl rfl (Nat.le_refl _)
    · refine hj_iconst (-1 : Int32) dX11_span_17 (by decide) ?_
      exact hj_iret dX11_span_18 rfl rfl (Nat.le_refl _)
theorem cX11_spank {a0 : Nat} {a1 : Int32} {a2 : Int32} {a3 : Int32} {σ : Sto} {r : Int32 × Sto} (h : fX11_span a0 a1 a2 a3 σ = some r) : ∃ fs, hs_o σ 11 a0 = some fs := (ck_of h).1
def fX11_hold (a0 : Nat) (a1 : Int32) (σ : Sto) : Option (Int32 × Sto) := ck σ 11 a0 ((gR σ 11 a0 10).bind fun t1 => ((gR σ 11 a0 6).bind fun t2 => (cb (fX8_keep t1 a1 t2 σ) fun r4 σ3 => (rZ r4 σ3))))
set_option maxHeartbeats 2000000 in
theorem kX11_hold (G : GP) (a0 : Nat) (a1 : Int32) (σ : Sto) : Me G mX11_hold 4 0 0 jI [.ref a0, .int a1] σ (fX11_hold a0 a1 σ) := by
  refine hs_me (lv := [(0, .ref a0), (1, .int a1)]) (plainFor_of_name (by decide +kernel)) (Nat.le_of_ble_eq_true rfl) rfl ?_
  unfold fX11_hold
  refine hj_ck ?_
  refine hj_aload_n 0 dX11_hold_0 rfl ?_
  refine hj_getR flX11_72 dX11_hold_1 (fun t1 _ => ?_)
  refine hj_iload_n 1 dX11_hold_4 rfl ?_
  refine hj_aload_n 0 dX11_hold_5 rfl ?_
  refine hj_getR flX11_46 dX11_hold_6 (fun t2 _ => ?_)
  refine hj_callV (ci := 8) (M' := mX8_keep) (h' := 3) (As := [.int a1, .ref t2]) mfX8_keep mvX8_keep ⟨_, _, rfl⟩ mlX11_286 dX11_hold_9 (kX8_keep G _ _ _ _) (fun _ hr => cX8_keepk hr) ⟨Nat.le_of_ble_eq_true rfl, Nat.le_of_ble_eq_true rfl⟩ ⟨Nat.le_refl _, Nat.le_refl _⟩ rfl (Nat.le_of_ble_eq_true rfl) (fun r4 σ3 _ => ?_)
  exact hj_rZ dX11_hold_12 rfl rfl (Nat.le_refl _)
theorem cX11_holdk {a0 : Nat} {a1 : Int32} {σ : Sto} {r : Int32 × Sto} (h : fX11_hold a0 a1 σ = some r) : ∃ fs, hs_o σ 11 a0 = some fs := (ck_of h).1
def fX11_restore (a0 : Nat) (a1 : Int32) (σ : Sto) : Option (Int32 × Sto) := ck σ 11 a0 ((gR σ 11 a0 10).bind fun t1 => ((gR σ 11 a0 6).bind fun t2 => (cb (fX8_giveBack t1 a1 t2 σ) fun r4 σ3 => (if r4 = 0 then (some ((0 : Int32), σ3)) else ((gR σ3 11 a0 9).bind fun t5 => ((pV σ3 4 t5 0 (.int ((0 : Int32)))).bind fun σ6 => (some ((1 : Int32), σ6))))))))
set_option maxHeartbeats 2000000 in
theorem kX11_restore (G : GP) (a0 : Nat) (a1 : Int32) (σ : Sto) : Me G mX11_restore 4 0 0 jI [.ref a0, .int a1] σ (fX11_restore a0 a1 σ) := by
  refine hs_me (lv := [(0, .ref a0), (1, .int a1)]) (plainFor_of_name (by decide +kernel)) (Nat.le_of_ble_eq_true rfl) rfl ?_
  unfold fX11_restore
  refine hj_ck ?_
  refine hj_aload_n 0 dX11_restore_0 rfl ?_
  refine hj_getR flX11_72 dX11_restore_1 (fun t1 _ => ?_)
  refine hj_iload_n 1 dX11_restore_4 rfl ?_
  refine hj_aload_n 0 dX11_restore_5 rfl ?_
  refine hj_getR flX11_46 dX11_restore_6 (fun t2 _ => ?_)
  refine hj_callV (ci := 8) (M' := mX8_giveBack) (h' := 3) (As := [.int a1, .ref t2]) mfX8_giveBack mvX8_giveBack ⟨_, _, rfl⟩ mlX11_290 dX11_restore_9 (kX8_giveBack G _ _ _ _) (fun _ hr => cX8_giveBackk hr) ⟨Nat.le_of_ble_eq_true rfl, Nat.le_of_ble_eq_true rfl⟩ ⟨Nat.le_refl _, Nat.le_refl _⟩ rfl (Nat.le_of_ble_eq_true rfl) (fun r4 σ3 _ => ?_)
  refine hj_if_ne 17 dX11_restore_12 (by decide) (fun _ => ?_) (fun _ => ?_)
  · refine hj_aload_n 0 dX11_restore_17 rfl ?_
    refine hj_getR flX11_65 dX11_restore_18 (fun t5 _ => ?_)
    refine hj_iconst (0 : Int32) dX11_restore_21 (by decide) ?_
    refine hj_put (fpX11_121 _) (fun _ => rfl) (fun _ => rfl) dX11_restore_22 (fun σ6 _ => ?_)
    refine hj_iconst (1 : Int32) dX11_restore_25 (by decide) ?_
    exact hj_zret dX11_restore_26 rfl (by decide) rfl (Nat.le_refl _)
  · refine hj_iconst (0 : Int32) dX11_restore_15 (by decide) ?_
    exact hj_zret dX11_restore_16 rfl (by decide) rfl (Nat.le_refl _)
theorem cX11_restorek {a0 : Nat} {a1 : Int32} {σ : Sto} {r : Int32 × Sto} (h : fX11_restore a0 a1 σ = some r) : ∃ fs, hs_o σ 11 a0 = some fs := (ck_of h).1
def fX11_fliesInPile_b38 (K4 : Nat → Int32 → Int32 → Sto → Option (Int32 × Sto)) (x0 : Nat) (x1 : Int32) (x2 : Int32) (σ : Sto) : Option (Int32 × Sto) := (K4 x0 x1 (x2 + (1 : Int32)) σ)
set_option maxHeartbeats 2000000 in
theorem sX11_fliesInPile_b38 {G : GP} {n0 : Nat} {K4 : Nat → Int32 → Int32 → Sto → Option (Int32 × Sto)} (hK4 : ∀ (x0 : Nat) (x1 : Int32) (x2 : Int32) (σ : Sto), Sim G mX11_fliesInPile 2 0 0 n0 jI 0 0 4 [(0, .ref x0), (1, .int x1), (2, .int x2)] [] σ (K4 x0 x1 x2 σ)) : ∀ (x0 : Nat) (x1 : Int32) (x2 : Int32) (σ : Sto), Sim G mX11_fliesInPile 2 0 0 n0 jI 0 0 38 [(0, .ref x0), (1, .int x1), (2, .int x2)] [] σ (fX11_fliesInPile_b38 K4 x0 x1 x2 σ) := by
  intro x0 x1 x2 σ
  unfold fX11_fliesInPile_b38
  refine hj_iinc (lv' := [(0, .ref x0), (1, .int x1), (2, .int (x2 + (1 : Int32)))]) 2 (1 : Int32) dX11_fliesInPile_38 rfl (by decide) (by decide) [1, 2, 0] rfl ?_
  refine hj_goto 4 dX11_fliesInPile_41 (by decide) ?_
  refine hj_loc (lv' := [(0, .ref x0), (1, .int x1), (2, .int (x2 + (1 : Int32)))]) [0, 1, 2] rfl ?_
  exact hK4 _ _ _ _
def fX11_fliesInPile_b4 : Nat → Nat → Int32 → Int32 → Sto → Option (Int32 × Sto)
  | 0, _, _, _, _ => none
  | n + 1, x0, x1, x2, σ => ((gR σ 11 x0 3).bind fun t1 => ((gI σ 10 t1 10).bind fun t2 => (if t2 ≤ x2 then (some (x1, σ)) else ((gR σ 11 x0 6).bind fun t3 => ((gR σ 11 x0 3).bind fun t4 => ((gR σ 10 t4 11).bind fun t5 => ((aI σ 2 t5 x2).bind fun t6 => (cb (fX5_levelOf t3 t6 σ) fun r8 σ7 => (if r8 = (-1 : Int32) then (fX11_fliesInPile_b38 (fX11_fliesInPile_b4 n) x0 x1 x2 σ7) else (fX11_fliesInPile_b38 (fX11_fliesInPile_b4 n) x0 (x1 + (1 : Int32)) x2 σ7))))))))))
set_option maxHeartbeats 2000000 in
theorem sX11_fliesInPile_b4 {G : GP} {n0 : Nat} : ∀ (n : Nat) (x0 : Nat) (x1 : Int32) (x2 : Int32) (σ : Sto), Sim G mX11_fliesInPile 2 0 0 n0 jI 0 0 4 [(0, .ref x0), (1, .int x1), (2, .int x2)] [] σ (fX11_fliesInPile_b4 n x0 x1 x2 σ) := by
  intro n
  induction n with
  | zero => intros; rw [fX11_fliesInPile_b4]; exact hj_none
  | succ n ih =>
    intro x0 x1 x2 σ
    rw [fX11_fliesInPile_b4]
    refine hj_iload_n 2 dX11_fliesInPile_4 rfl ?_
    refine hj_aload_n 0 dX11_fliesInPile_5 rfl ?_
    refine hj_getR flX11_27 dX11_fliesInPile_6 (fun t1 _ => ?_)
    refine hj_getI flX11_296 dX11_fliesInPile_9 (fun t2 _ => ?_)
    refine hj_icmp_ge 44 dX11_fliesInPile_12 (by decide) (fun _ => ?_) (fun _ => ?_)
    · refine hj_iload_n 1 dX11_fliesInPile_44 rfl ?_
      exact hj_iret dX11_fliesInPile_45 rfl rfl (Nat.le_refl _)
    · refine hj_aload_n 0 dX11_fliesInPile_15 rfl ?_
      refine hj_getR flX11_46 dX11_fliesInPile_16 (fun t3 _ => ?_)
      refine hj_aload_n 0 dX11_fliesInPile_19 rfl ?_
      refine hj_getR flX11_27 dX11_fliesInPile_20 (fun t4 _ => ?_)
      refine hj_getR flX11_318 dX11_fliesInPile_23 (fun t5 _ => ?_)
      refine hj_iload_n 2 dX11_fliesInPile_26 rfl ?_
      refine hj_iald dX11_fliesInPile_27 (fun t6 _ => ?_)
      refine hj_callV (ci := 5) (M' := mX5_levelOf) (h' := 1) (As := [.int t6]) mfX5_levelOf mvX5_levelOf ⟨_, _, rfl⟩ mlX11_135 dX11_fliesInPile_28 (kX5_levelOf G _ _ _) (fun _ hr => cX5_levelOfk hr) ⟨Nat.le_of_ble_eq_true rfl, Nat.le_of_ble_eq_true rfl⟩ ⟨Nat.le_refl _, Nat.le_refl _⟩ rfl (Nat.le_of_ble_eq_true rfl) (fun r8 σ7 _ => ?_)
      refine hj_iconst (-1 : Int32) dX11_fliesInPile_31 (by decide) ?_
      refine hj_icmp_eq 38 dX11_fliesInPile_32 (by decide) (fun _ => ?_) (fun _ => ?_)
      · refine hj_loc (lv' := [(0, .ref x0), (1, .int x1), (2, .int x2)]) [0, 1, 2] rfl ?_
        exact sX11_fliesInPile_b38 ih _ _ _ _
      · refine hj_iinc (lv' := [(0, .ref x0), (1, .int (x1 + (1 : Int32))), (2, .int x2)]) 1 (1 : Int32) dX11_fliesInPile_35 rfl (by decide) (by decide) [1, 0, 2] rfl ?_
        refine hj_loc (lv' := [(0, .ref x0), (1, .int (x1 + (1 : Int32))), (2, .int x2)]) [0, 1, 2] rfl ?_
        exact sX11_fliesInPile_b38 ih _ _ _ _
def fX11_fliesInPile (a0 : Nat) (σ : Sto) : Option (Int32 × Sto) := ck σ 11 a0 (fX11_fliesInPile_b4 FU a0 ((0 : Int32)) ((0 : Int32)) σ)
set_option maxHeartbeats 2000000 in
theorem kX11_fliesInPile (G : GP) (a0 : Nat) (σ : Sto) : Me G mX11_fliesInPile 2 0 0 jI [.ref a0] σ (fX11_fliesInPile a0 σ) := by
  refine hs_me (lv := [(0, .ref a0)]) (plainFor_of_name (by decide +kernel)) (Nat.le_of_ble_eq_true rfl) rfl ?_
  unfold fX11_fliesInPile
  refine hj_ck ?_
  refine hj_iconst (0 : Int32) dX11_fliesInPile_0 (by decide) ?_
  refine hj_istore_n (lv' := [(0, .ref a0), (1, .int (0 : Int32))]) dX11_fliesInPile_1 (by decide) [1, 0] rfl ?_
  refine hj_iconst (0 : Int32) dX11_fliesInPile_2 (by decide) ?_
  refine hj_istore_n (lv' := [(0, .ref a0), (1, .int (0 : Int32)), (2, .int (0 : Int32))]) dX11_fliesInPile_3 (by decide) [1, 2, 0] rfl ?_
  refine hj_loc (lv' := [(0, .ref a0), (1, .int (0 : Int32)), (2, .int (0 : Int32))]) [0, 1, 2] rfl ?_
  exact sX11_fliesInPile_b4 _ _ _ _ _
theorem cX11_fliesInPilek {a0 : Nat} {σ : Sto} {r : Int32 × Sto} (h : fX11_fliesInPile a0 σ = some r) : ∃ fs, hs_o σ 11 a0 = some fs := (ck_of h).1
def fX11_count (a0 : Nat) (a1 : Int32) (σ : Sto) : Option (Int32 × Sto) := ck σ 11 a0 (if a1 = (0 : Int32) then ((gR σ 11 a0 3).bind fun t17 => ((gI σ 10 t17 0).bind fun t18 => (some (t18, σ)))) else (if a1 = (1 : Int32) then ((gR σ 11 a0 6).bind fun t15 => ((gI σ 5 t15 0).bind fun t16 => (some (t16, σ)))) else (if a1 = (2 : Int32) then ((gR σ 11 a0 3).bind fun t13 => ((gI σ 10 t13 9).bind fun t14 => (some (t14, σ)))) else (if a1 = (3 : Int32) then ((gR σ 11 a0 3).bind fun t11 => ((gI σ 10 t11 10).bind fun t12 => (some (t12, σ)))) else (if a1 = (4 : Int32) then (cb (fX11_fliesInPile a0 σ) fun r10 σ9 => (some (r10, σ9))) else (if a1 = (5 : Int32) then ((gI σ 11 a0 1).bind fun t8 => (some (t8, σ))) else (if a1 = (6 : Int32) then ((gR σ 11 a0 9).bind fun t6 => ((gI σ 4 t6 0).bind fun t7 => (some (t7, σ)))) else (if a1 = (7 : Int32) then ((gR σ 11 a0 11).bind fun t4 => ((gI σ 1 t4 0).bind fun t5 => (some (t5, σ)))) else (if a1 = (8 : Int32) then ((gR σ 11 a0 10).bind fun t1 => (cb (fX8_filled t1 σ) fun r3 σ2 => (some (r3, σ2)))) else (some ((-1 : Int32), σ)))))))))))
set_option maxHeartbeats 2000000 in
theorem kX11_count (G : GP) (a0 : Nat) (a1 : Int32) (σ : Sto) : Me G mX11_count 3 0 0 jI [.ref a0, .int a1] σ (fX11_count a0 a1 σ) := by
  refine hs_me (lv := [(0, .ref a0), (1, .int a1)]) (plainFor_of_name (by decide +kernel)) (Nat.le_of_ble_eq_true rfl) rfl ?_
  unfold fX11_count
  refine hj_ck ?_
  refine hj_iload_n 1 dX11_count_0 rfl ?_
  refine hj_ite (fun n0 => ?_) (fun n0 => ?_)
  · refine hj_tin (0 : Int32) (51) 52 dX11_count_1 n0 (by decide) (by decide) (by decide) (by decide) ?_
    refine hj_aload_n 0 dX11_count_52 rfl ?_
    refine hj_getR flX11_27 dX11_count_53 (fun t17 _ => ?_)
    refine hj_getI flX11_251 dX11_count_56 (fun t18 _ => ?_)
    exact hj_iret dX11_count_59 rfl rfl (Nat.le_refl _)
  · refine hj_ite (fun n1 => ?_) (fun n1 => ?_)
    · refine hj_tin (1 : Int32) (59) 60 dX11_count_1 n1 (by decide) (by decide) (by decide) (by decide) ?_
      refine hj_aload_n 0 dX11_count_60 rfl ?_
      refine hj_getR flX11_46 dX11_count_61 (fun t15 _ => ?_)
      refine hj_getI flX11_210 dX11_count_64 (fun t16 _ => ?_)
      exact hj_iret dX11_count_67 rfl rfl (Nat.le_refl _)
    · refine hj_ite (fun n2 => ?_) (fun n2 => ?_)
      · refine hj_tin (2 : Int32) (67) 68 dX11_count_1 n2 (by decide) (by decide) (by decide) (by decide) ?_
        refine hj_aload_n 0 dX11_count_68 rfl ?_
        refine hj_getR flX11_27 dX11_count_69 (fun t13 _ => ?_)
        refine hj_getI flX11_293 dX11_count_72 (fun t14 _ => ?_)
        exact hj_iret dX11_count_75 rfl rfl (Nat.le_refl _)
      · refine hj_ite (fun n3 => ?_) (fun n3 => ?_)
        · refine hj_tin (3 : Int32) (75) 76 dX11_count_1 n3 (by decide) (by decide) (by decide) (by decide) ?_
          refine hj_aload_n 0 dX11_count_76 rfl ?_
          refine hj_getR flX11_27 dX11_count_77 (fun t11 _ => ?_)
          refine hj_getI flX11_296 dX11_count_80 (fun t12 _ => ?_)
          exact hj_iret dX11_count_83 rfl rfl (Nat.le_refl _)
        · refine hj_ite (fun n4 => ?_) (fun n4 => ?_)
          · refine hj_tin (4 : Int32) (83) 84 dX11_count_1 n4 (by decide) (by decide) (by decide) (by decide) ?_
            refine hj_aload_n 0 dX11_count_84 rfl ?_
            refine hj_callV (ci := 11) (M' := mX11_fliesInPile) (h' := 2) (As := []) mfX11_fliesInPile mvX11_fliesInPile ⟨_, _, rfl⟩ mlX11_299 dX11_count_85 (kX11_fliesInPile G _ _) (fun _ hr => cX11_fliesInPilek hr) ⟨Nat.le_of_ble_eq_true rfl, Nat.le_of_ble_eq_true rfl⟩ ⟨Nat.le_refl _, Nat.le_refl _⟩ rfl (Nat.le_of_ble_eq_true rfl) (fun r10 σ9 _ => ?_)
            exact hj_iret dX11_count_88 rfl rfl (Nat.le_refl _)
          · refine hj_ite (fun n5 => ?_) (fun n5 => ?_)
            · refine hj_tin (5 : Int32) (88) 89 dX11_count_1 n5 (by decide) (by decide) (by decide) (by decide) ?_
              refine hj_aload_n 0 dX11_count_89 rfl ?_
              refine hj_getI flX11_13 dX11_count_90 (fun t8 _ => ?_)
              exact hj_iret dX11_count_93 rfl rfl (Nat.le_refl _)
            · refine hj_ite (fun n6 => ?_) (fun n6 => ?_)
              · refine hj_tin (6 : Int32) (93) 94 dX11_count_1 n6 (by decide) (by decide) (by decide) (by decide) ?_
                refine hj_aload_n 0 dX11_count_94 rfl ?_
                refine hj_getR flX11_65 dX11_count_95 (fun t6 _ => ?_)
                refine hj_getI flX11_121 dX11_count_98 (fun t7 _ => ?_)
                exact hj_iret dX11_count_101 rfl rfl (Nat.le_refl _)
              · refine hj_ite (fun n7 => ?_) (fun n7 => ?_)
                · refine hj_tin (7 : Int32) (101) 102 dX11_count_1 n7 (by decide) (by decide) (by decide) (by decide) ?_
                  refine hj_aload_n 0 dX11_count_102 rfl ?_
                  refine hj_getR flX11_79 dX11_count_103 (fun t4 _ => ?_)
                  refine hj_getI flX11_124 dX11_count_106 (fun t5 _ => ?_)
                  exact hj_iret dX11_count_109 rfl rfl (Nat.le_refl _)
                · refine hj_ite (fun n8 => ?_) (fun n8 => ?_)
                  · refine hj_tin (8 : Int32) (109) 110 dX11_count_1 n8 (by decide) (by decide) (by decide) (by decide) ?_
                    refine hj_aload_n 0 dX11_count_110 rfl ?_
                    refine hj_getR flX11_72 dX11_count_111 (fun t1 _ => ?_)
                    refine hj_callV (ci := 8) (M' := mX8_filled) (h' := 1) (As := []) mfX8_filled mvX8_filled ⟨_, _, rfl⟩ mlX11_302 dX11_count_114 (kX8_filled G _ _) (fun _ hr => cX8_filledk hr) ⟨Nat.le_of_ble_eq_true rfl, Nat.le_of_ble_eq_true rfl⟩ ⟨Nat.le_refl _, Nat.le_refl _⟩ rfl (Nat.le_of_ble_eq_true rfl) (fun r3 σ2 _ => ?_)
                    exact hj_iret dX11_count_117 rfl rfl (Nat.le_refl _)
                  · refine hj_tout 118 dX11_count_1 (by have := lv_neT (a := 0) n0 (by decide); have := lv_neT (a := 1) n1 (by decide); have := lv_neT (a := 2) n2 (by decide); have := lv_neT (a := 3) n3 (by decide); have := lv_neT (a := 4) n4 (by decide); have := lv_neT (a := 5) n5 (by decide); have := lv_neT (a := 6) n6 (by decide); have := lv_neT (a := 7) n7 (by decide); have := lv_neT (a := 8) n8 (by decide); omega) (by decide) ?_
                    refine hj_iconst (-1 : Int32) dX11_count_118 (by decide) ?_
                    exact hj_iret dX11_count_119 rfl rfl (Nat.le_refl _)
theorem cX11_countk {a0 : Nat} {a1 : Int32} {σ : Sto} {r : Int32 × Sto} (h : fX11_count a0 a1 σ = some r) : ∃ fs, hs_o σ 11 a0 = some fs := (ck_of h).1
