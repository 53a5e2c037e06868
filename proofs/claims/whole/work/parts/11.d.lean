def fX12_reaches_b19 : Nat → Nat → Int32 → Int32 → Sto → Option (Unit × Sto)
  | 0, _, _, _, _ => none
  | n + 1, x0, x1, x2, σ => (if x2 < 0 then (some ((), σ)) else ((gI σ 12 x0 18).bind fun t1 => ((gR σ 12 x0 61).bind fun t2 => ((aI σ 2 t2 x2).bind fun t3 => (lt ((((((6 : Int32)) * t1)) + t3)) fun v4 => ((gR σ 12 x0 24).bind fun t5 => ((aI σ 2 t5 v4).bind fun t6 => (lt ((x1 + t6)) fun v7 => ((gR σ 12 x0 24).bind fun t8 => ((aI σ 2 t8 v4).bind fun t9 => ((gR σ 12 x0 23).bind fun t10 => ((aI σ 2 t10 v4).bind fun t11 => (cb (fX12_adds x0 ((((t9.toInt64)) * ((t11.toInt64)))) ((((2 : Int64)) * ((v7.toInt64)))) σ) fun _ σ12 => (fX12_reaches_b19 n x0 v7 (x2 + (-1 : Int32)) σ12))))))))))))))
set_option maxHeartbeats 2000000 in
theorem sX12_reaches_b19 {G : GP} {n0 : Nat} : ∀ (n : Nat) (x0 : Nat) (x1 : Int32) (x2 : Int32) (σ : Sto), Sim G mX12_reaches 3 0 0 n0 jV 0 0 19 [(0, .ref x0), (1, .int x1), (2, .int x2)] [] σ (fX12_reaches_b19 n x0 x1 x2 σ) := by
  intro n
  induction n with
  | zero => intros; rw [fX12_reaches_b19]; exact hj_none
  | succ n ih =>
    intro x0 x1 x2 σ
    rw [fX12_reaches_b19]
    refine hj_iload_n 2 dX12_reaches_19 rfl ?_
    refine hj_if_lt 78 dX12_reaches_20 (by decide) (fun _ => ?_) (fun _ => ?_)
    · exact hj_vret dX12_reaches_78 rfl rfl (Nat.le_refl _)
    · refine hj_bipush (6 : Int32) dX12_reaches_23 (by decide) ?_
      refine hj_aload_n 0 dX12_reaches_25 rfl ?_
      refine hj_getI flX12_221 dX12_reaches_26 (fun t1 _ => ?_)
      refine hj_imul dX12_reaches_29 ?_
      refine hj_aload_n 0 dX12_reaches_30 rfl ?_
      refine hj_getR flX12_128 dX12_reaches_31 (fun t2 _ => ?_)
      refine hj_iload_n 2 dX12_reaches_34 rfl ?_
      refine hj_iald dX12_reaches_35 (fun t3 _ => ?_)
      refine hj_iadd dX12_reaches_36 ?_
      refine hj_ltI (fun v4 _ => ?_)
      refine hj_istore_n (lv' := [(0, .ref x0), (1, .int x1), (2, .int x2), (3, .int v4)]) dX12_reaches_37 (by decide) [1, 2, 3, 0] rfl ?_
      refine hj_iload_n 1 dX12_reaches_38 rfl ?_
      refine hj_aload_n 0 dX12_reaches_39 rfl ?_
      refine hj_getR flX12_49 dX12_reaches_40 (fun t5 _ => ?_)
      refine hj_iload_n 3 dX12_reaches_43 rfl ?_
      refine hj_iald dX12_reaches_44 (fun t6 _ => ?_)
      refine hj_iadd dX12_reaches_45 ?_
      refine hj_ltI (fun v7 _ => ?_)
      refine hj_istore_n (lv' := [(0, .ref x0), (1, .int v7), (2, .int x2), (3, .int v4)]) dX12_reaches_46 (by decide) [1, 0, 2, 3] rfl ?_
      refine hj_aload_n 0 dX12_reaches_47 rfl ?_
      refine hj_aload_n 0 dX12_reaches_48 rfl ?_
      refine hj_getR flX12_49 dX12_reaches_49 (fun t8 _ => ?_)
      refine hj_iload_n 3 dX12_reaches_52 rfl ?_
      refine hj_iald dX12_reaches_53 (fun t9 _ => ?_)
      refine hj_i2l dX12_reaches_54 ?_
      refine hj_aload_n 0 dX12_reaches_55 rfl ?_
      refine hj_getR flX12_46 dX12_reaches_56 (fun t10 _ => ?_)
      refine hj_iload_n 3 dX12_reaches_59 rfl ?_
      refine hj_iald dX12_reaches_60 (fun t11 _ => ?_)
      refine hj_i2l dX12_reaches_61 ?_
      refine hj_lmul dX12_reaches_62 ?_
      refine hj_ldc2 (2 : Int64) kcX12_320 dX12_reaches_63 ?_
      refine hj_iload_n 1 dX12_reaches_66 rfl ?_
      refine hj_i2l dX12_reaches_67 ?_
      refine hj_lmul dX12_reaches_68 ?_
      refine hj_callV (ci := 12) (M' := mX12_adds) (h' := 2) (As := [.long ((((t9.toInt64)) * ((t11.toInt64)))), .long ((((2 : Int64)) * ((v7.toInt64))))]) mfX12_adds mvX12_adds ⟨_, _, rfl⟩ mlX12_393 dX12_reaches_69 (kX12_adds G _ _ _ _) (fun _ hr => cX12_addsk hr) ⟨Nat.le_of_ble_eq_true rfl, Nat.le_of_ble_eq_true rfl⟩ ⟨Nat.le_refl _, Nat.le_refl _⟩ rfl (Nat.le_of_ble_eq_true rfl) (fun _ σ12 _ => ?_)
      refine hj_iinc (lv' := [(0, .ref x0), (1, .int v7), (2, .int (x2 + (-1 : Int32))), (3, .int v4)]) 2 (-1 : Int32) dX12_reaches_72 rfl (by decide) (by decide) [1, 2, 0, 3] rfl ?_
      refine hj_goto 19 dX12_reaches_75 (by decide) ?_
      refine hj_loc (lv' := [(0, .ref x0), (1, .int v7), (2, .int (x2 + (-1 : Int32)))]) [0, 1, 2] rfl ?_
      exact ih _ _ _ _
def fX12_reaches (a0 : Nat) (σ : Sto) : Option (Unit × Sto) := ck σ 12 a0 ((pV σ 12 a0 58 (.long ((0 : Int64)))).bind fun σ13 => ((pV σ13 12 a0 59 (.long ((1 : Int64)))).bind fun σ14 => ((gI σ14 12 a0 60).bind fun t15 => (lt ((t15 - ((1 : Int32)))) fun v16 => (fX12_reaches_b19 FU a0 ((0 : Int32)) v16 σ14)))))
set_option maxHeartbeats 2000000 in
theorem kX12_reaches (G : GP) (a0 : Nat) (σ : Sto) : Me G mX12_reaches 3 0 0 jV [.ref a0] σ (fX12_reaches a0 σ) := by
  refine hs_me (lv := [(0, .ref a0)]) (plainFor_of_name (by decide +kernel)) (Nat.le_of_ble_eq_true rfl) rfl ?_
  unfold fX12_reaches
  refine hj_ck ?_
  refine hj_aload_n 0 dX12_reaches_0 rfl ?_
  refine hj_lconst (0 : Int64) dX12_reaches_1 (by decide) ?_
  refine hj_put (fpX12_387 _) (fun _ => rfl) (fun _ => rfl) dX12_reaches_2 (fun σ13 _ => ?_)
  refine hj_aload_n 0 dX12_reaches_5 rfl ?_
  refine hj_lconst (1 : Int64) dX12_reaches_6 (by decide) ?_
  refine hj_put (fpX12_383 _) (fun _ => rfl) (fun _ => rfl) dX12_reaches_7 (fun σ14 _ => ?_)
  refine hj_iconst (0 : Int32) dX12_reaches_10 (by decide) ?_
  refine hj_istore_n (lv' := [(0, .ref a0), (1, .int (0 : Int32))]) dX12_reaches_11 (by decide) [1, 0] rfl ?_
  refine hj_aload_n 0 dX12_reaches_12 rfl ?_
  refine hj_getI flX12_390 dX12_reaches_13 (fun t15 _ => ?_)
  refine hj_iconst (1 : Int32) dX12_reaches_16 (by decide) ?_
  refine hj_isub dX12_reaches_17 ?_
  refine hj_ltI (fun v16 _ => ?_)
  refine hj_istore_n (lv' := [(0, .ref a0), (1, .int (0 : Int32)), (2, .int v16)]) dX12_reaches_18 (by decide) [1, 2, 0] rfl ?_
  refine hj_loc (lv' := [(0, .ref a0), (1, .int (0 : Int32)), (2, .int v16)]) [0, 1, 2] rfl ?_
  exact sX12_reaches_b19 _ _ _ _ _
theorem cX12_reachesk {a0 : Nat} {σ : Sto} {r : Unit × Sto} (h : fX12_reaches a0 σ = some r) : ∃ fs, hs_o σ 12 a0 = some fs := (ck_of h).1
def fX12_takesOrder_b96 : Nat → Nat → Int32 → Int32 → Sto → Option (Int32 × Sto)
  | 0, _, _, _, _ => none
  | n + 1, x0, x5, x6, σ => (if x6 ≤ x5 then (some ((1 : Int32), σ)) else ((gR σ 12 x0 61).bind fun t1 => ((aI σ 2 t1 x5).bind fun t2 => ((gR σ 12 x0 61).bind fun t3 => ((gR σ 12 x0 61).bind fun t4 => ((aI σ 2 t4 x6).bind fun t5 => ((sI σ 2 t3 x5 t5).bind fun σ6 => ((gR σ6 12 x0 61).bind fun t7 => ((sI σ6 2 t7 x6 t2).bind fun σ8 => (fX12_takesOrder_b96 n x0 (x5 + (1 : Int32)) (x6 + (-1 : Int32)) σ8))))))))))
set_option maxHeartbeats 2000000 in
theorem sX12_takesOrder_b96 {G : GP} {n0 : Nat} : ∀ (n : Nat) (x0 : Nat) (x5 : Int32) (x6 : Int32) (σ : Sto), Sim G mX12_takesOrder 3 0 0 n0 jI 0 0 96 [(0, .ref x0), (5, .int x5), (6, .int x6)] [] σ (fX12_takesOrder_b96 n x0 x5 x6 σ) := by
  intro n
  induction n with
  | zero => intros; rw [fX12_takesOrder_b96]; exact hj_none
  | succ n ih =>
    intro x0 x5 x6 σ
    rw [fX12_takesOrder_b96]
    refine hj_iload 1 dX12_takesOrder_96 rfl ?_
    refine hj_iload 2 dX12_takesOrder_98 rfl ?_
    refine hj_icmp_ge 144 dX12_takesOrder_100 (by decide) (fun _ => ?_) (fun _ => ?_)
    · refine hj_iconst (1 : Int32) dX12_takesOrder_144 (by decide) ?_
      exact hj_zret dX12_takesOrder_145 rfl (by decide) rfl (Nat.le_refl _)
    · refine hj_aload_n 0 dX12_takesOrder_103 rfl ?_
      refine hj_getR flX12_128 dX12_takesOrder_104 (fun t1 _ => ?_)
      refine hj_iload 1 dX12_takesOrder_107 rfl ?_
      refine hj_iald dX12_takesOrder_109 (fun t2 _ => ?_)
      refine hj_istore (lv' := [(0, .ref x0), (5, .int x5), (6, .int x6), (7, .int t2)]) dX12_takesOrder_110 (by decide) [1, 2, 3, 0] rfl ?_
      refine hj_aload_n 0 dX12_takesOrder_112 rfl ?_
      refine hj_getR flX12_128 dX12_takesOrder_113 (fun t3 _ => ?_)
      refine hj_iload 1 dX12_takesOrder_116 rfl ?_
      refine hj_aload_n 0 dX12_takesOrder_118 rfl ?_
      refine hj_getR flX12_128 dX12_takesOrder_119 (fun t4 _ => ?_)
      refine hj_iload 2 dX12_takesOrder_122 rfl ?_
      refine hj_iald dX12_takesOrder_124 (fun t5 _ => ?_)
      refine hj_iast dX12_takesOrder_125 (fun σ6 _ => ?_)
      refine hj_aload_n 0 dX12_takesOrder_126 rfl ?_
      refine hj_getR flX12_128 dX12_takesOrder_127 (fun t7 _ => ?_)
      refine hj_iload 2 dX12_takesOrder_130 rfl ?_
      refine hj_iload 3 dX12_takesOrder_132 rfl ?_
      refine hj_iast dX12_takesOrder_134 (fun σ8 _ => ?_)
      refine hj_iinc (lv' := [(0, .ref x0), (5, .int (x5 + (1 : Int32))), (6, .int x6), (7, .int t2)]) 1 (1 : Int32) dX12_takesOrder_135 rfl (by decide) (by decide) [1, 0, 2, 3] rfl ?_
      refine hj_iinc (lv' := [(0, .ref x0), (5, .int (x5 + (1 : Int32))), (6, .int (x6 + (-1 : Int32))), (7, .int t2)]) 2 (-1 : Int32) dX12_takesOrder_138 rfl (by decide) (by decide) [1, 2, 0, 3] rfl ?_
      refine hj_goto 96 dX12_takesOrder_141 (by decide) ?_
      refine hj_loc (lv' := [(0, .ref x0), (5, .int (x5 + (1 : Int32))), (6, .int (x6 + (-1 : Int32)))]) [0, 1, 2] rfl ?_
      exact ih _ _ _ _
def fX12_takesOrder_b83 (x0 : Nat) (x3 : Int32) (σ : Sto) : Option (Int32 × Sto) := ((pV σ 12 x0 60 (.int x3)).bind fun σ9 => (lt ((x3 - ((1 : Int32)))) fun v10 => (fX12_takesOrder_b96 FU x0 ((0 : Int32)) v10 σ9)))
set_option maxHeartbeats 2000000 in
theorem sX12_takesOrder_b83 {G : GP} {n0 : Nat} : ∀ (x0 : Nat) (x3 : Int32) (σ : Sto), Sim G mX12_takesOrder 3 0 0 n0 jI 0 0 83 [(0, .ref x0), (3, .int x3)] [] σ (fX12_takesOrder_b83 x0 x3 σ) := by
  intro x0 x3 σ
  unfold fX12_takesOrder_b83
  refine hj_aload_n 0 dX12_takesOrder_83 rfl ?_
  refine hj_iload_n 1 dX12_takesOrder_84 rfl ?_
  refine hj_put (fpX12_390 _) (fun _ => rfl) (fun _ => rfl) dX12_takesOrder_85 (fun σ9 _ => ?_)
  refine hj_iconst (0 : Int32) dX12_takesOrder_88 (by decide) ?_
  refine hj_istore (lv' := [(0, .ref x0), (3, .int x3), (5, .int (0 : Int32))]) dX12_takesOrder_89 (by decide) [1, 2, 0] rfl ?_
  refine hj_iload_n 1 dX12_takesOrder_91 rfl ?_
  refine hj_iconst (1 : Int32) dX12_takesOrder_92 (by decide) ?_
  refine hj_isub dX12_takesOrder_93 ?_
  refine hj_ltI (fun v10 _ => ?_)
  refine hj_istore (lv' := [(0, .ref x0), (3, .int x3), (5, .int (0 : Int32)), (6, .int v10)]) dX12_takesOrder_94 (by decide) [1, 2, 3, 0] rfl ?_
  refine hj_loc (lv' := [(0, .ref x0), (5, .int (0 : Int32)), (6, .int v10)]) [0, 2, 3] rfl ?_
  exact sX12_takesOrder_b96 _ _ _ _ _
def fX12_takesOrder_b21 : Nat → Nat → Int32 → Int32 → Int32 → Sto → Option (Int32 × Sto)
  | 0, _, _, _, _, _ => none
  | n + 1, x0, x2, x3, x4, σ => (if x2 ≤ 0 then (fX12_takesOrder_b83 x0 x3 σ) else (lt ((((hs_rem x2 ((10 : Int32)))) - ((1 : Int32)))) fun v11 => (cb (fX12_isBook x0 v11 σ) fun r13 σ12 => (if r13 = 0 then (some ((0 : Int32), σ12)) else (if (((x4 >>> (v11 &&& 31))) &&& ((1 : Int32))) = (1 : Int32) then (some ((0 : Int32), σ12)) else (lt ((x4 ||| ((((1 : Int32)) <<< (v11 &&& 31))))) fun v14 => ((gR σ12 12 x0 61).bind fun t15 => ((sI σ12 2 t15 x3 v11).bind fun σ16 => (lt ((x2 / ((10 : Int32)))) fun v17 => (fX12_takesOrder_b21 n x0 v17 (x3 + (1 : Int32)) v14 σ16))))))))))
set_option maxHeartbeats 2000000 in
theorem sX12_takesOrder_b21 {G : GP} {n0 : Nat} : ∀ (n : Nat) (x0 : Nat) (x2 : Int32) (x3 : Int32) (x4 : Int32) (σ : Sto), Sim G mX12_takesOrder 3 0 0 n0 jI 0 0 21 [(0, .ref x0), (2, .int x2), (3, .int x3), (4, .int x4)] [] σ (fX12_takesOrder_b21 n x0 x2 x3 x4 σ) := by
  intro n
  induction n with
  | zero => intros; rw [fX12_takesOrder_b21]; exact hj_none
  | succ n ih =>
    intro x0 x2 x3 x4 σ
    rw [fX12_takesOrder_b21]
    refine hj_iload_n 1 dX12_takesOrder_21 rfl ?_
    refine hj_if_le 83 dX12_takesOrder_22 (by decide) (fun _ => ?_) (fun _ => ?_)
    · refine hj_loc (lv' := [(0, .ref x0), (3, .int x3)]) [0, 2] rfl ?_
      exact sX12_takesOrder_b83 _ _ _
    · refine hj_iload_n 1 dX12_takesOrder_25 rfl ?_
      refine hj_bipush (10 : Int32) dX12_takesOrder_26 (by decide) ?_
      refine hj_iremK dX12_takesOrder_28 (by decide) ?_
      refine hj_iconst (1 : Int32) dX12_takesOrder_29 (by decide) ?_
      refine hj_isub dX12_takesOrder_30 ?_
      refine hj_ltI (fun v11 _ => ?_)
      refine hj_istore (lv' := [(0, .ref x0), (2, .int x2), (3, .int x3), (4, .int x4), (5, .int v11)]) dX12_takesOrder_31 (by decide) [1, 2, 3, 4, 0] rfl ?_
      refine hj_aload_n 0 dX12_takesOrder_33 rfl ?_
      refine hj_iload 4 dX12_takesOrder_34 rfl ?_
      refine hj_callV (ci := 12) (M' := mX12_isBook) (h' := 2) (As := [.int v11]) mfX12_isBook mvX12_isBook ⟨_, _, rfl⟩ mlX12_343 dX12_takesOrder_36 (kX12_isBook G _ _ _) (fun _ hr => cX12_isBookk hr) ⟨Nat.le_of_ble_eq_true rfl, Nat.le_of_ble_eq_true rfl⟩ ⟨Nat.le_refl _, Nat.le_refl _⟩ rfl (Nat.le_of_ble_eq_true rfl) (fun r13 σ12 _ => ?_)
      refine hj_if_eq 53 dX12_takesOrder_39 (by decide) (fun _ => ?_) (fun _ => ?_)
      · refine hj_iconst (0 : Int32) dX12_takesOrder_53 (by decide) ?_
        exact hj_zret dX12_takesOrder_54 rfl (by decide) rfl (Nat.le_refl _)
      · refine hj_iload 3 dX12_takesOrder_42 rfl ?_
        refine hj_iload 4 dX12_takesOrder_44 rfl ?_
        refine hj_ishr dX12_takesOrder_46 ?_
        refine hj_iconst (1 : Int32) dX12_takesOrder_47 (by decide) ?_
        refine hj_iand dX12_takesOrder_48 ?_
        refine hj_iconst (1 : Int32) dX12_takesOrder_49 (by decide) ?_
        refine hj_icmp_ne 55 dX12_takesOrder_50 (by decide) (fun _ => ?_) (fun _ => ?_)
        · refine hj_iload 3 dX12_takesOrder_55 rfl ?_
          refine hj_iconst (1 : Int32) dX12_takesOrder_57 (by decide) ?_
          refine hj_iload 4 dX12_takesOrder_58 rfl ?_
          refine hj_ishl dX12_takesOrder_60 ?_
          refine hj_ior dX12_takesOrder_61 ?_
          refine hj_ltI (fun v14 _ => ?_)
          refine hj_istore (lv' := [(0, .ref x0), (2, .int x2), (3, .int x3), (4, .int v14), (5, .int v11)]) dX12_takesOrder_62 (by decide) [1, 2, 3, 0, 4] rfl ?_
          refine hj_aload_n 0 dX12_takesOrder_64 rfl ?_
          refine hj_getR flX12_128 dX12_takesOrder_65 (fun t15 _ => ?_)
          refine hj_iload_n 2 dX12_takesOrder_68 rfl ?_
          refine hj_iload 4 dX12_takesOrder_69 rfl ?_
          refine hj_iast dX12_takesOrder_71 (fun σ16 _ => ?_)
          refine hj_iinc (lv' := [(0, .ref x0), (2, .int x2), (3, .int (x3 + (1 : Int32))), (4, .int v14), (5, .int v11)]) 2 (1 : Int32) dX12_takesOrder_72 rfl (by decide) (by decide) [1, 2, 0, 3, 4] rfl ?_
          refine hj_iload_n 1 dX12_takesOrder_75 rfl ?_
          refine hj_bipush (10 : Int32) dX12_takesOrder_76 (by decide) ?_
          refine hj_idivK dX12_takesOrder_78 (by decide) ?_
          refine hj_ltI (fun v17 _ => ?_)
          refine hj_istore_n (lv' := [(0, .ref x0), (2, .int v17), (3, .int (x3 + (1 : Int32))), (4, .int v14), (5, .int v11)]) dX12_takesOrder_79 (by decide) [1, 0, 2, 3, 4] rfl ?_
          refine hj_goto 21 dX12_takesOrder_80 (by decide) ?_
          refine hj_loc (lv' := [(0, .ref x0), (2, .int v17), (3, .int (x3 + (1 : Int32))), (4, .int v14)]) [0, 1, 2, 3] rfl ?_
          exact ih _ _ _ _ _
        · refine hj_iconst (0 : Int32) dX12_takesOrder_53 (by decide) ?_
          exact hj_zret dX12_takesOrder_54 rfl (by decide) rfl (Nat.le_refl _)
def fX12_takesOrder (a0 : Nat) (a1 : Int32) (σ : Sto) : Option (Int32 × Sto) := ck σ 12 a0 (if a1 < (1 : Int32) then (some ((0 : Int32), σ)) else (if a1 ≤ (666666 : Int32) then (fX12_takesOrder_b21 FU a0 a1 ((0 : Int32)) ((0 : Int32)) σ) else (some ((0 : Int32), σ))))
set_option maxHeartbeats 2000000 in
theorem kX12_takesOrder (G : GP) (a0 : Nat) (a1 : Int32) (σ : Sto) : Me G mX12_takesOrder 3 0 0 jI [.ref a0, .int a1] σ (fX12_takesOrder a0 a1 σ) := by
  refine hs_me (lv := [(0, .ref a0), (1, .int a1)]) (plainFor_of_name (by decide +kernel)) (Nat.le_of_ble_eq_true rfl) rfl ?_
  unfold fX12_takesOrder
  refine hj_ck ?_
  refine hj_iload_n 1 dX12_takesOrder_0 rfl ?_
  refine hj_istore_n (lv' := [(0, .ref a0), (1, .int a1), (2, .int a1)]) dX12_takesOrder_1 (by decide) [1, 2, 0] rfl ?_
  refine hj_iconst (0 : Int32) dX12_takesOrder_2 (by decide) ?_
  refine hj_istore_n (lv' := [(0, .ref a0), (1, .int a1), (2, .int a1), (3, .int (0 : Int32))]) dX12_takesOrder_3 (by decide) [1, 2, 3, 0] rfl ?_
  refine hj_iconst (0 : Int32) dX12_takesOrder_4 (by decide) ?_
  refine hj_istore (lv' := [(0, .ref a0), (1, .int a1), (2, .int a1), (3, .int (0 : Int32)), (4, .int (0 : Int32))]) dX12_takesOrder_5 (by decide) [1, 2, 3, 4, 0] rfl ?_
  refine hj_iload_n 2 dX12_takesOrder_7 rfl ?_
  refine hj_iconst (1 : Int32) dX12_takesOrder_8 (by decide) ?_
  refine hj_icmp_lt 19 dX12_takesOrder_9 (by decide) (fun _ => ?_) (fun _ => ?_)
  · refine hj_iconst (0 : Int32) dX12_takesOrder_19 (by decide) ?_
    exact hj_zret dX12_takesOrder_20 rfl (by decide) rfl (Nat.le_refl _)
  · refine hj_iload_n 2 dX12_takesOrder_12 rfl ?_
    refine hj_ldcw (666666 : Int32) kcX12_397 dX12_takesOrder_13 ?_
    refine hj_icmp_le 21 dX12_takesOrder_16 (by decide) (fun _ => ?_) (fun _ => ?_)
    · refine hj_loc (lv' := [(0, .ref a0), (2, .int a1), (3, .int (0 : Int32)), (4, .int (0 : Int32))]) [0, 2, 3, 4] rfl ?_
      exact sX12_takesOrder_b21 _ _ _ _ _ _
    · refine hj_iconst (0 : Int32) dX12_takesOrder_19 (by decide) ?_
      exact hj_zret dX12_takesOrder_20 rfl (by decide) rfl (Nat.le_refl _)
theorem cX12_takesOrderk {a0 : Nat} {a1 : Int32} {σ : Sto} {r : Int32 × Sto} (h : fX12_takesOrder a0 a1 σ = some r) : ∃ fs, hs_o σ 12 a0 = some fs := (ck_of h).1
def fX12_reach (a0 : Nat) (a1 : Int32) (a2 : Int32) (σ : Sto) : Option (Int64 × Sto) := ck σ 12 a0 (cb (fX12_takesOrder a0 a1 σ) fun r2 σ1 => (if r2 = 0 then (some ((-1 : Int64), σ1)) else (cb (fX12_reaches a0 σ1) fun _ σ3 => (if a2 = 0 then ((gL σ3 12 a0 58).bind fun t4 => (some (t4, σ3))) else ((gL σ3 12 a0 59).bind fun t5 => (some (t5, σ3)))))))
set_option maxHeartbeats 2000000 in
theorem kX12_reach (G : GP) (a0 : Nat) (a1 : Int32) (a2 : Int32) (σ : Sto) : Me G mX12_reach 4 0 0 jL [.ref a0, .int a1, .int a2] σ (fX12_reach a0 a1 a2 σ) := by
  refine hs_me (lv := [(0, .ref a0), (1, .int a1), (2, .int a2)]) (plainFor_of_name (by decide +kernel)) (Nat.le_of_ble_eq_true rfl) rfl ?_
  unfold fX12_reach
  refine hj_ck ?_
  refine hj_aload_n 0 dX12_reach_0 rfl ?_
  refine hj_iload_n 1 dX12_reach_1 rfl ?_
  refine hj_callV (ci := 12) (M' := mX12_takesOrder) (h' := 3) (As := [.int a1]) mfX12_takesOrder mvX12_takesOrder ⟨_, _, rfl⟩ mlX12_398 dX12_reach_2 (kX12_takesOrder G _ _ _) (fun _ hr => cX12_takesOrderk hr) ⟨Nat.le_of_ble_eq_true rfl, Nat.le_of_ble_eq_true rfl⟩ ⟨Nat.le_refl _, Nat.le_refl _⟩ rfl (Nat.le_of_ble_eq_true rfl) (fun r2 σ1 _ => ?_)
  refine hj_if_ne 12 dX12_reach_5 (by decide) (fun _ => ?_) (fun _ => ?_)
  · refine hj_aload_n 0 dX12_reach_12 rfl ?_
    refine hj_callV (ci := 12) (M' := mX12_reaches) (h' := 3) (As := []) mfX12_reaches mvX12_reaches ⟨_, _, rfl⟩ mlX12_403 dX12_reach_13 (kX12_reaches G _ _) (fun _ hr => cX12_reachesk hr) ⟨Nat.le_of_ble_eq_true rfl, Nat.le_of_ble_eq_true rfl⟩ ⟨Nat.le_refl _, Nat.le_refl _⟩ rfl (Nat.le_of_ble_eq_true rfl) (fun _ σ3 _ => ?_)
    refine hj_iload_n 2 dX12_reach_16 rfl ?_
    refine hj_if_eq 27 dX12_reach_17 (by decide) (fun _ => ?_) (fun _ => ?_)
    · refine hj_aload_n 0 dX12_reach_27 rfl ?_
      refine hj_getL flX12_387 dX12_reach_28 (fun t4 _ => ?_)
      exact hj_lret dX12_reach_31 rfl rfl (Nat.le_refl _)
    · refine hj_aload_n 0 dX12_reach_20 rfl ?_
      refine hj_getL flX12_383 dX12_reach_21 (fun t5 _ => ?_)
      refine hj_goto 31 dX12_reach_24 (by decide) ?_
      exact hj_lret dX12_reach_31 rfl rfl (Nat.le_refl _)
  · refine hj_ldc2 (-1 : Int64) kcX12_401 dX12_reach_8 ?_
    exact hj_lret dX12_reach_11 rfl rfl (Nat.le_refl _)
theorem cX12_reachk {a0 : Nat} {a1 : Int32} {a2 : Int32} {σ : Sto} {r : Int64 × Sto} (h : fX12_reach a0 a1 a2 σ = some r) : ∃ fs, hs_o σ 12 a0 = some fs := (ck_of h).1
def fX12_isMore_b36 (x16 : Int64) (x18 : Int64) (σ : Sto) : Option (Int32 × Sto) := (if (lg_cmp x16 x18) ≤ 0 then (some ((0 : Int32), σ)) else (some ((1 : Int32), σ)))
set_option maxHeartbeats 2000000 in
theorem sX12_isMore_b36 {G : GP} {n0 : Nat} : ∀ (x16 : Int64) (x18 : Int64) (σ : Sto), Sim G mX12_isMore 1 0 0 n0 jI 0 0 36 [(16, .long x16), (18, .long x18)] [] σ (fX12_isMore_b36 x16 x18 σ) := by
  intro x16 x18 σ
  unfold fX12_isMore_b36
  refine hj_lload 0 dX12_isMore_36 rfl ?_
  refine hj_lload 1 dX12_isMore_38 rfl ?_
  refine hj_lcmp dX12_isMore_40 ?_
  refine hj_if_le 48 dX12_isMore_41 (by decide) (fun _ => ?_) (fun _ => ?_)
  · refine hj_iconst (0 : Int32) dX12_isMore_48 (by decide) ?_
    exact hj_zret dX12_isMore_49 rfl (by decide) rfl (Nat.le_refl _)
  · refine hj_iconst (1 : Int32) dX12_isMore_44 (by decide) ?_
    refine hj_goto 49 dX12_isMore_45 (by decide) ?_
    exact hj_zret dX12_isMore_49 rfl (by decide) rfl (Nat.le_refl _)
def fX12_isMore_b14 : Nat → Int64 → Int64 → Int64 → Int64 → Sto → Option (Int32 × Sto)
  | 0, _, _, _, _, _ => none
  | n + 1, x8, x10, x12, x14, σ => (if x10 = 0 then none else (lt ((x8 / x10)) fun v1 => (if x14 = 0 then none else (lt ((x12 / x14)) fun v2 => (if (lg_cmp v1 v2) = 0 then (if x10 = 0 then none else (lt ((hs_remL x8 x10)) fun v3 => (if x14 = 0 then none else (lt ((hs_remL x12 x14)) fun v4 => (if (lg_cmp v3 ((0 : Int64))) = 0 then (some ((0 : Int32), σ)) else (if (lg_cmp v4 ((0 : Int64))) = 0 then (some ((1 : Int32), σ)) else (fX12_isMore_b14 n x14 v4 x10 v3 σ))))))) else (fX12_isMore_b36 v1 v2 σ))))))
set_option maxHeartbeats 2000000 in
theorem sX12_isMore_b14 {G : GP} {n0 : Nat} : ∀ (n : Nat) (x8 : Int64) (x10 : Int64) (x12 : Int64) (x14 : Int64) (σ : Sto), Sim G mX12_isMore 1 0 0 n0 jI 0 0 14 [(8, .long x8), (10, .long x10), (12, .long x12), (14, .long x14)] [] σ (fX12_isMore_b14 n x8 x10 x12 x14 σ) := by
  intro n
  induction n with
  | zero => intros; rw [fX12_isMore_b14]; exact hj_none
  | succ n ih =>
    intro x8 x10 x12 x14 σ
    rw [fX12_isMore_b14]
    refine hj_lload 0 dX12_isMore_14 rfl ?_
    refine hj_lload 1 dX12_isMore_16 rfl ?_
    refine hj_ldiv dX12_isMore_18 (fun _ => ?_)
    refine hj_ltJ (fun v1 _ => ?_)
    refine hj_lstore (lv' := [(8, .long x8), (10, .long x10), (12, .long x12), (14, .long x14), (16, .long v1)]) dX12_isMore_19 (by decide) [1, 2, 3, 4, 0] rfl ?_
    refine hj_lload 2 dX12_isMore_21 rfl ?_
    refine hj_lload 3 dX12_isMore_23 rfl ?_
    refine hj_ldiv dX12_isMore_25 (fun _ => ?_)
    refine hj_ltJ (fun v2 _ => ?_)
    refine hj_lstore (lv' := [(8, .long x8), (10, .long x10), (12, .long x12), (14, .long x14), (16, .long v1), (18, .long v2)]) dX12_isMore_26 (by decide) [1, 2, 3, 4, 5, 0] rfl ?_
    refine hj_lload 4 dX12_isMore_28 rfl ?_
    refine hj_lload 5 dX12_isMore_30 rfl ?_
    refine hj_lcmp dX12_isMore_32 ?_
    refine hj_if_eq 50 dX12_isMore_33 (by decide) (fun _ => ?_) (fun _ => ?_)
    · refine hj_lload 0 dX12_isMore_50 rfl ?_
      refine hj_lload 1 dX12_isMore_52 rfl ?_
      refine hj_lrem dX12_isMore_54 (fun _ => ?_)
      refine hj_ltJ (fun v3 _ => ?_)
      refine hj_lstore (lv' := [(8, .long v3), (10, .long x10), (12, .long x12), (14, .long x14), (16, .long v1), (18, .long v2)]) dX12_isMore_55 (by decide) [0, 1, 2, 3, 4, 5] rfl ?_
      refine hj_lload 2 dX12_isMore_57 rfl ?_
      refine hj_lload 3 dX12_isMore_59 rfl ?_
      refine hj_lrem dX12_isMore_61 (fun _ => ?_)
      refine hj_ltJ (fun v4 _ => ?_)
      refine hj_lstore (lv' := [(8, .long v3), (10, .long x10), (12, .long v4), (14, .long x14), (16, .long v1), (18, .long v2)]) dX12_isMore_62 (by decide) [1, 2, 0, 3, 4, 5] rfl ?_
      refine hj_lload 0 dX12_isMore_64 rfl ?_
      refine hj_lconst (0 : Int64) dX12_isMore_66 (by decide) ?_
      refine hj_lcmp dX12_isMore_67 ?_
      refine hj_if_ne 73 dX12_isMore_68 (by decide) (fun _ => ?_) (fun _ => ?_)
      · refine hj_lload 2 dX12_isMore_73 rfl ?_
        refine hj_lconst (0 : Int64) dX12_isMore_75 (by decide) ?_
        refine hj_lcmp dX12_isMore_76 ?_
        refine hj_if_ne 82 dX12_isMore_77 (by decide) (fun _ => ?_) (fun _ => ?_)
        · refine hj_lload 0 dX12_isMore_82 rfl ?_
          refine hj_lstore (lv' := [(8, .long v3), (10, .long x10), (12, .long v4), (14, .long x14), (16, .long v1), (18, .long v2), (20, .long v3)]) dX12_isMore_84 (by decide) [1, 2, 3, 4, 5, 6, 0] rfl ?_
          refine hj_lload 3 dX12_isMore_86 rfl ?_
          refine hj_lstore (lv' := [(8, .long x14), (10, .long x10), (12, .long v4), (14, .long x14), (16, .long v1), (18, .long v2), (20, .long v3)]) dX12_isMore_88 (by decide) [0, 1, 2, 3, 4, 5, 6] rfl ?_
          refine hj_lload 6 dX12_isMore_90 rfl ?_
          refine hj_lstore (lv' := [(8, .long x14), (10, .long x10), (12, .long v4), (14, .long v3), (16, .long v1), (18, .long v2), (20, .long v3)]) dX12_isMore_92 (by decide) [1, 2, 3, 0, 4, 5, 6] rfl ?_
          refine hj_lload 1 dX12_isMore_94 rfl ?_
          refine hj_lstore (lv' := [(8, .long x14), (10, .long x10), (12, .long v4), (14, .long v3), (16, .long v1), (18, .long v2), (20, .long x10)]) dX12_isMore_96 (by decide) [1, 2, 3, 4, 5, 6, 0] rfl ?_
          refine hj_lload 2 dX12_isMore_98 rfl ?_
          refine hj_lstore (lv' := [(8, .long x14), (10, .long v4), (12, .long v4), (14, .long v3), (16, .long v1), (18, .long v2), (20, .long x10)]) dX12_isMore_100 (by decide) [1, 0, 2, 3, 4, 5, 6] rfl ?_
          refine hj_lload 6 dX12_isMore_102 rfl ?_
          refine hj_lstore (lv' := [(8, .long x14), (10, .long v4), (12, .long x10), (14, .long v3), (16, .long v1), (18, .long v2), (20, .long x10)]) dX12_isMore_104 (by decide) [1, 2, 0, 3, 4, 5, 6] rfl ?_
          refine hj_goto 14 dX12_isMore_106 (by decide) ?_
          refine hj_loc (lv' := [(8, .long x14), (10, .long v4), (12, .long x10), (14, .long v3)]) [0, 1, 2, 3] rfl ?_
          exact ih _ _ _ _ _
        · refine hj_iconst (1 : Int32) dX12_isMore_80 (by decide) ?_
          exact hj_zret dX12_isMore_81 rfl (by decide) rfl (Nat.le_refl _)
      · refine hj_iconst (0 : Int32) dX12_isMore_71 (by decide) ?_
        exact hj_zret dX12_isMore_72 rfl (by decide) rfl (Nat.le_refl _)
    · refine hj_loc (lv' := [(16, .long v1), (18, .long v2)]) [4, 5] rfl ?_
      exact sX12_isMore_b36 _ _ _
def fX12_isMore (a0 : Int64) (a1 : Int64) (a2 : Int64) (a3 : Int64) (σ : Sto) : Option (Int32 × Sto) := (fX12_isMore_b14 FU a0 a1 a2 a3 σ)
set_option maxHeartbeats 2000000 in
theorem kX12_isMore (G : GP) (a0 : Int64) (a1 : Int64) (a2 : Int64) (a3 : Int64) (σ : Sto) : Me G mX12_isMore 1 0 0 jI [.long a0, .long a1, .long a2, .long a3] σ (fX12_isMore a0 a1 a2 a3 σ) := by
  refine hs_me (lv := [(0, .long a0), (2, .long a1), (4, .long a2), (6, .long a3)]) (plainFor_of_name (by decide +kernel)) (Nat.le_of_ble_eq_true rfl) rfl ?_
  unfold fX12_isMore
  refine hj_lload_n 0 dX12_isMore_0 rfl ?_
  refine hj_lstore (lv' := [(0, .long a0), (2, .long a1), (4, .long a2), (6, .long a3), (8, .long a0)]) dX12_isMore_1 (by decide) [1, 2, 3, 4, 0] rfl ?_
  refine hj_lload_n 1 dX12_isMore_3 rfl ?_
  refine hj_lstore (lv' := [(0, .long a0), (2, .long a1), (4, .long a2), (6, .long a3), (8, .long a0), (10, .long a1)]) dX12_isMore_4 (by decide) [1, 2, 3, 4, 5, 0] rfl ?_
  refine hj_lload 2 dX12_isMore_6 rfl ?_
  refine hj_lstore (lv' := [(0, .long a0), (2, .long a1), (4, .long a2), (6, .long a3), (8, .long a0), (10, .long a1), (12, .long a2)]) dX12_isMore_8 (by decide) [1, 2, 3, 4, 5, 6, 0] rfl ?_
  refine hj_lload 3 dX12_isMore_10 rfl ?_
  refine hj_lstore (lv' := [(0, .long a0), (2, .long a1), (4, .long a2), (6, .long a3), (8, .long a0), (10, .long a1), (12, .long a2), (14, .long a3)]) dX12_isMore_12 (by decide) [1, 2, 3, 4, 5, 6, 7, 0] rfl ?_
  refine hj_loc (lv' := [(8, .long a0), (10, .long a1), (12, .long a2), (14, .long a3)]) [4, 5, 6, 7] rfl ?_
  exact sX12_isMore_b14 _ _ _ _ _ _
def fX12_nextOrder_b105 : Nat → Nat → Int32 → Int32 → Sto → Option (Int32 × Sto)
  | 0, _, _, _, _ => none
  | n + 1, x0, x5, x6, σ => (if x6 ≤ x5 then (some ((1 : Int32), σ)) else ((gR σ 12 x0 61).bind fun t16 => ((aI σ 2 t16 x5).bind fun t17 => ((gR σ 12 x0 61).bind fun t18 => ((gR σ 12 x0 61).bind fun t19 => ((aI σ 2 t19 x6).bind fun t20 => ((sI σ 2 t18 x5 t20).bind fun σ21 => ((gR σ21 12 x0 61).bind fun t22 => ((sI σ21 2 t22 x6 t17).bind fun σ23 => (fX12_nextOrder_b105 n x0 (x5 + (1 : Int32)) (x6 + (-1 : Int32)) σ23))))))))))
set_option maxHeartbeats 2000000 in
theorem sX12_nextOrder_b105 {G : GP} {n0 : Nat} : ∀ (n : Nat) (x0 : Nat) (x5 : Int32) (x6 : Int32) (σ : Sto), Sim G mX12_nextOrder 1 0 0 n0 jI 0 0 105 [(0, .ref x0), (5, .int x5), (6, .int x6)] [] σ (fX12_nextOrder_b105 n x0 x5 x6 σ) := by
  intro n
  induction n with
  | zero => intros; rw [fX12_nextOrder_b105]; exact hj_none
  | succ n ih =>
    intro x0 x5 x6 σ
    rw [fX12_nextOrder_b105]
    refine hj_iload 1 dX12_nextOrder_105 rfl ?_
    refine hj_iload 2 dX12_nextOrder_107 rfl ?_
    refine hj_icmp_ge 153 dX12_nextOrder_109 (by decide) (fun _ => ?_) (fun _ => ?_)
    · refine hj_iconst (1 : Int32) dX12_nextOrder_153 (by decide) ?_
      exact hj_zret dX12_nextOrder_154 rfl (by decide) rfl (Nat.le_refl _)
    · refine hj_aload_n 0 dX12_nextOrder_112 rfl ?_
      refine hj_getR flX12_128 dX12_nextOrder_113 (fun t16 _ => ?_)
      refine hj_iload 1 dX12_nextOrder_116 rfl ?_
      refine hj_iald dX12_nextOrder_118 (fun t17 _ => ?_)
      refine hj_istore (lv' := [(0, .ref x0), (4, .int t17), (5, .int x5), (6, .int x6)]) dX12_nextOrder_119 (by decide) [1, 0, 2, 3] rfl ?_
      refine hj_aload_n 0 dX12_nextOrder_121 rfl ?_
      refine hj_getR flX12_128 dX12_nextOrder_122 (fun t18 _ => ?_)
      refine hj_iload 2 dX12_nextOrder_125 rfl ?_
      refine hj_aload_n 0 dX12_nextOrder_127 rfl ?_
      refine hj_getR flX12_128 dX12_nextOrder_128 (fun t19 _ => ?_)
      refine hj_iload 3 dX12_nextOrder_131 rfl ?_
      refine hj_iald dX12_nextOrder_133 (fun t20 _ => ?_)
      refine hj_iast dX12_nextOrder_134 (fun σ21 _ => ?_)
      refine hj_aload_n 0 dX12_nextOrder_135 rfl ?_
      refine hj_getR flX12_128 dX12_nextOrder_136 (fun t22 _ => ?_)
      refine hj_iload 3 dX12_nextOrder_139 rfl ?_
      refine hj_iload 1 dX12_nextOrder_141 rfl ?_
      refine hj_iast dX12_nextOrder_143 (fun σ23 _ => ?_)
      refine hj_iinc (lv' := [(0, .ref x0), (4, .int t17), (5, .int (x5 + (1 : Int32))), (6, .int x6)]) 2 (1 : Int32) dX12_nextOrder_144 rfl (by decide) (by decide) [1, 2, 0, 3] rfl ?_
      refine hj_iinc (lv' := [(0, .ref x0), (4, .int t17), (5, .int (x5 + (1 : Int32))), (6, .int (x6 + (-1 : Int32)))]) 3 (-1 : Int32) dX12_nextOrder_147 rfl (by decide) (by decide) [1, 2, 3, 0] rfl ?_
      refine hj_goto 105 dX12_nextOrder_150 (by decide) ?_
      refine hj_loc (lv' := [(0, .ref x0), (5, .int (x5 + (1 : Int32))), (6, .int (x6 + (-1 : Int32)))]) [0, 2, 3] rfl ?_
      exact ih _ _ _ _
def fX12_nextOrder_b67 (x0 : Nat) (x1 : Int32) (x2 : Int32) (x3 : Int32) (σ : Sto) : Option (Int32 × Sto) := ((gR σ 12 x0 61).bind fun t1 => ((aI σ 2 t1 x2).bind fun t2 => ((gR σ 12 x0 61).bind fun t3 => ((gR σ 12 x0 61).bind fun t4 => ((aI σ 2 t4 x3).bind fun t5 => ((sI σ 2 t3 x2 t5).bind fun σ6 => ((gR σ6 12 x0 61).bind fun t7 => ((sI σ6 2 t7 x3 t2).bind fun σ8 => (lt ((x2 + ((1 : Int32)))) fun v9 => (lt ((x1 - ((1 : Int32)))) fun v10 => (fX12_nextOrder_b105 FU x0 v9 v10 σ8)))))))))))
set_option maxHeartbeats 2000000 in
theorem sX12_nextOrder_b67 {G : GP} {n0 : Nat} : ∀ (x0 : Nat) (x1 : Int32) (x2 : Int32) (x3 : Int32) (σ : Sto), Sim G mX12_nextOrder 1 0 0 n0 jI 0 0 67 [(0, .ref x0), (1, .int x1), (2, .int x2), (3, .int x3)] [] σ (fX12_nextOrder_b67 x0 x1 x2 x3 σ) := by
  intro x0 x1 x2 x3 σ
  unfold fX12_nextOrder_b67
  refine hj_aload_n 0 dX12_nextOrder_67 rfl ?_
  refine hj_getR flX12_128 dX12_nextOrder_68 (fun t1 _ => ?_)
  refine hj_iload_n 2 dX12_nextOrder_71 rfl ?_
  refine hj_iald dX12_nextOrder_72 (fun t2 _ => ?_)
  refine hj_istore (lv' := [(0, .ref x0), (1, .int x1), (2, .int x2), (3, .int x3), (4, .int t2)]) dX12_nextOrder_73 (by decide) [1, 2, 3, 4, 0] rfl ?_
  refine hj_aload_n 0 dX12_nextOrder_75 rfl ?_
  refine hj_getR flX12_128 dX12_nextOrder_76 (fun t3 _ => ?_)
  refine hj_iload_n 2 dX12_nextOrder_79 rfl ?_
  refine hj_aload_n 0 dX12_nextOrder_80 rfl ?_
  refine hj_getR flX12_128 dX12_nextOrder_81 (fun t4 _ => ?_)
  refine hj_iload_n 3 dX12_nextOrder_84 rfl ?_
  refine hj_iald dX12_nextOrder_85 (fun t5 _ => ?_)
  refine hj_iast dX12_nextOrder_86 (fun σ6 _ => ?_)
  refine hj_aload_n 0 dX12_nextOrder_87 rfl ?_
  refine hj_getR flX12_128 dX12_nextOrder_88 (fun t7 _ => ?_)
  refine hj_iload_n 3 dX12_nextOrder_91 rfl ?_
  refine hj_iload 4 dX12_nextOrder_92 rfl ?_
  refine hj_iast dX12_nextOrder_94 (fun σ8 _ => ?_)
  refine hj_iload_n 2 dX12_nextOrder_95 rfl ?_
  refine hj_iconst (1 : Int32) dX12_nextOrder_96 (by decide) ?_
  refine hj_iadd dX12_nextOrder_97 ?_
  refine hj_ltI (fun v9 _ => ?_)
  refine hj_istore (lv' := [(0, .ref x0), (1, .int x1), (2, .int x2), (3, .int x3), (4, .int t2), (5, .int v9)]) dX12_nextOrder_98 (by decide) [1, 2, 3, 4, 5, 0] rfl ?_
  refine hj_iload_n 1 dX12_nextOrder_100 rfl ?_
  refine hj_iconst (1 : Int32) dX12_nextOrder_101 (by decide) ?_
  refine hj_isub dX12_nextOrder_102 ?_
  refine hj_ltI (fun v10 _ => ?_)
  refine hj_istore (lv' := [(0, .ref x0), (1, .int x1), (2, .int x2), (3, .int x3), (4, .int t2), (5, .int v9), (6, .int v10)]) dX12_nextOrder_103 (by decide) [1, 2, 3, 4, 5, 6, 0] rfl ?_
  refine hj_loc (lv' := [(0, .ref x0), (5, .int v9), (6, .int v10)]) [0, 5, 6] rfl ?_
  exact sX12_nextOrder_b105 _ _ _ _ _
def fX12_nextOrder_b46 : Nat → Nat → Int32 → Int32 → Int32 → Sto → Option (Int32 × Sto)
  | 0, _, _, _, _, _ => none
  | n + 1, x0, x1, x2, x3, σ => ((gR σ 12 x0 61).bind fun t24 => ((aI σ 2 t24 x3).bind fun t25 => ((gR σ 12 x0 61).bind fun t26 => ((aI σ 2 t26 x2).bind fun t27 => (if t27 ≤ t25 then (fX12_nextOrder_b67 x0 x1 x2 x3 σ) else (fX12_nextOrder_b46 n x0 x1 x2 (x3 + (-1 : Int32)) σ))))))
set_option maxHeartbeats 2000000 in
theorem sX12_nextOrder_b46 {G : GP} {n0 : Nat} : ∀ (n : Nat) (x0 : Nat) (x1 : Int32) (x2 : Int32) (x3 : Int32) (σ : Sto), Sim G mX12_nextOrder 1 0 0 n0 jI 0 0 46 [(0, .ref x0), (1, .int x1), (2, .int x2), (3, .int x3)] [] σ (fX12_nextOrder_b46 n x0 x1 x2 x3 σ) := by
  intro n
  induction n with
  | zero => intros; rw [fX12_nextOrder_b46]; exact hj_none
  | succ n ih =>
    intro x0 x1 x2 x3 σ
    rw [fX12_nextOrder_b46]
    refine hj_aload_n 0 dX12_nextOrder_46 rfl ?_
    refine hj_getR flX12_128 dX12_nextOrder_47 (fun t24 _ => ?_)
    refine hj_iload_n 3 dX12_nextOrder_50 rfl ?_
    refine hj_iald dX12_nextOrder_51 (fun t25 _ => ?_)
    refine hj_aload_n 0 dX12_nextOrder_52 rfl ?_
    refine hj_getR flX12_128 dX12_nextOrder_53 (fun t26 _ => ?_)
    refine hj_iload_n 2 dX12_nextOrder_56 rfl ?_
    refine hj_iald dX12_nextOrder_57 (fun t27 _ => ?_)
    refine hj_icmp_ge 67 dX12_nextOrder_58 (by decide) (fun _ => ?_) (fun _ => ?_)
    · refine hj_loc (lv' := [(0, .ref x0), (1, .int x1), (2, .int x2), (3, .int x3)]) [0, 1, 2, 3] rfl ?_
      exact sX12_nextOrder_b67 _ _ _ _ _
    · refine hj_iinc (lv' := [(0, .ref x0), (1, .int x1), (2, .int x2), (3, .int (x3 + (-1 : Int32)))]) 3 (-1 : Int32) dX12_nextOrder_61 rfl (by decide) (by decide) [1, 2, 3, 0] rfl ?_
      refine hj_goto 46 dX12_nextOrder_64 (by decide) ?_
      refine hj_loc (lv' := [(0, .ref x0), (1, .int x1), (2, .int x2), (3, .int (x3 + (-1 : Int32)))]) [0, 1, 2, 3] rfl ?_
      exact ih _ _ _ _ _
def fX12_nextOrder_b36 (x0 : Nat) (x1 : Int32) (x2 : Int32) (σ : Sto) : Option (Int32 × Sto) := (if 0 ≤ x2 then (lt ((x1 - ((1 : Int32)))) fun v11 => (fX12_nextOrder_b46 FU x0 x1 x2 v11 σ)) else (some ((0 : Int32), σ)))
set_option maxHeartbeats 2000000 in
theorem sX12_nextOrder_b36 {G : GP} {n0 : Nat} : ∀ (x0 : Nat) (x1 : Int32) (x2 : Int32) (σ : Sto), Sim G mX12_nextOrder 1 0 0 n0 jI 0 0 36 [(0, .ref x0), (1, .int x1), (2, .int x2)] [] σ (fX12_nextOrder_b36 x0 x1 x2 σ) := by
  intro x0 x1 x2 σ
  unfold fX12_nextOrder_b36
  refine hj_iload_n 2 dX12_nextOrder_36 rfl ?_
  refine hj_if_ge 42 dX12_nextOrder_37 (by decide) (fun _ => ?_) (fun _ => ?_)
  · refine hj_iload_n 1 dX12_nextOrder_42 rfl ?_
    refine hj_iconst (1 : Int32) dX12_nextOrder_43 (by decide) ?_
    refine hj_isub dX12_nextOrder_44 ?_
    refine hj_ltI (fun v11 _ => ?_)
    refine hj_istore_n (lv' := [(0, .ref x0), (1, .int x1), (2, .int x2), (3, .int v11)]) dX12_nextOrder_45 (by decide) [1, 2, 3, 0] rfl ?_
    refine hj_loc (lv' := [(0, .ref x0), (1, .int x1), (2, .int x2), (3, .int v11)]) [0, 1, 2, 3] rfl ?_
    exact sX12_nextOrder_b46 _ _ _ _ _ _
  · refine hj_iconst (0 : Int32) dX12_nextOrder_40 (by decide) ?_
    exact hj_zret dX12_nextOrder_41 rfl (by decide) rfl (Nat.le_refl _)
def fX12_nextOrder_b9 : Nat → Nat → Int32 → Int32 → Sto → Option (Int32 × Sto)
  | 0, _, _, _, _ => none
  | n + 1, x0, x1, x2, σ => (if x2 < 0 then (fX12_nextOrder_b36 x0 x1 x2 σ) else ((gR σ 12 x0 61).bind fun t12 => ((aI σ 2 t12 x2).bind fun t13 => ((gR σ 12 x0 61).bind fun t14 => ((aI σ 2 t14 ((x2 + ((1 : Int32))))).bind fun t15 => (if t13 ≤ t15 then (fX12_nextOrder_b36 x0 x1 x2 σ) else (fX12_nextOrder_b9 n x0 x1 (x2 + (-1 : Int32)) σ)))))))
set_option maxHeartbeats 2000000 in
theorem sX12_nextOrder_b9 {G : GP} {n0 : Nat} : ∀ (n : Nat) (x0 : Nat) (x1 : Int32) (x2 : Int32) (σ : Sto), Sim G mX12_nextOrder 1 0 0 n0 jI 0 0 9 [(0, .ref x0), (1, .int x1), (2, .int x2)] [] σ (fX12_nextOrder_b9 n x0 x1 x2 σ) := by
  intro n
  induction n with
  | zero => intros; rw [fX12_nextOrder_b9]; exact hj_none
  | succ n ih =>
    intro x0 x1 x2 σ
    rw [fX12_nextOrder_b9]
    refine hj_iload_n 2 dX12_nextOrder_9 rfl ?_
    refine hj_if_lt 36 dX12_nextOrder_10 (by decide) (fun _ => ?_) (fun _ => ?_)
    · refine hj_loc (lv' := [(0, .ref x0), (1, .int x1), (2, .int x2)]) [0, 1, 2] rfl ?_
      exact sX12_nextOrder_b36 _ _ _ _
    · refine hj_aload_n 0 dX12_nextOrder_13 rfl ?_
      refine hj_getR flX12_128 dX12_nextOrder_14 (fun t12 _ => ?_)
      refine hj_iload_n 2 dX12_nextOrder_17 rfl ?_
      refine hj_iald dX12_nextOrder_18 (fun t13 _ => ?_)
      refine hj_aload_n 0 dX12_nextOrder_19 rfl ?_
      refine hj_getR flX12_128 dX12_nextOrder_20 (fun t14 _ => ?_)
      refine hj_iload_n 2 dX12_nextOrder_23 rfl ?_
      refine hj_iconst (1 : Int32) dX12_nextOrder_24 (by decide) ?_
      refine hj_iadd dX12_nextOrder_25 ?_
      refine hj_iald dX12_nextOrder_26 (fun t15 _ => ?_)
      refine hj_icmp_le 36 dX12_nextOrder_27 (by decide) (fun _ => ?_) (fun _ => ?_)
      · refine hj_loc (lv' := [(0, .ref x0), (1, .int x1), (2, .int x2)]) [0, 1, 2] rfl ?_
        exact sX12_nextOrder_b36 _ _ _ _
      · refine hj_iinc (lv' := [(0, .ref x0), (1, .int x1), (2, .int (x2 + (-1 : Int32)))]) 2 (-1 : Int32) dX12_nextOrder_30 rfl (by decide) (by decide) [1, 2, 0] rfl ?_
        refine hj_goto 9 dX12_nextOrder_33 (by decide) ?_
        refine hj_loc (lv' := [(0, .ref x0), (1, .int x1), (2, .int (x2 + (-1 : Int32)))]) [0, 1, 2] rfl ?_
        exact ih _ _ _ _
def fX12_nextOrder (a0 : Nat) (σ : Sto) : Option (Int32 × Sto) := ck σ 12 a0 ((gI σ 12 a0 60).bind fun t28 => (lt ((t28 - ((2 : Int32)))) fun v29 => (fX12_nextOrder_b9 FU a0 t28 v29 σ)))
set_option maxHeartbeats 2000000 in
theorem kX12_nextOrder (G : GP) (a0 : Nat) (σ : Sto) : Me G mX12_nextOrder 1 0 0 jI [.ref a0] σ (fX12_nextOrder a0 σ) := by
  refine hs_me (lv := [(0, .ref a0)]) (plainFor_of_name (by decide +kernel)) (Nat.le_of_ble_eq_true rfl) rfl ?_
  unfold fX12_nextOrder
  refine hj_ck ?_
  refine hj_aload_n 0 dX12_nextOrder_0 rfl ?_
  refine hj_getI flX12_390 dX12_nextOrder_1 (fun t28 _ => ?_)
  refine hj_istore_n (lv' := [(0, .ref a0), (1, .int t28)]) dX12_nextOrder_4 (by decide) [1, 0] rfl ?_
  refine hj_iload_n 1 dX12_nextOrder_5 rfl ?_
  refine hj_iconst (2 : Int32) dX12_nextOrder_6 (by decide) ?_
  refine hj_isub dX12_nextOrder_7 ?_
  refine hj_ltI (fun v29 _ => ?_)
  refine hj_istore_n (lv' := [(0, .ref a0), (1, .int t28), (2, .int v29)]) dX12_nextOrder_8 (by decide) [1, 2, 0] rfl ?_
  refine hj_loc (lv' := [(0, .ref a0), (1, .int t28), (2, .int v29)]) [0, 1, 2] rfl ?_
  exact sX12_nextOrder_b9 _ _ _ _ _
theorem cX12_nextOrderk {a0 : Nat} {σ : Sto} {r : Int32 × Sto} (h : fX12_nextOrder a0 σ = some r) : ∃ fs, hs_o σ 12 a0 = some fs := (ck_of h).1
def fX12_bestOrder_b159 (K83 : Nat → Int32 → Int64 → Int64 → Int32 → Sto → Option (Int32 × Sto)) (x0 : Nat) (x2 : Int32) (x3 : Int64) (x5 : Int64) (σ : Sto) : Option (Int32 × Sto) := (cb (fX12_nextOrder x0 σ) fun r18 σ17 => (K83 x0 x2 x3 x5 r18 σ17))
set_option maxHeartbeats 2000000 in
theorem sX12_bestOrder_b159 {G : GP} {n0 : Nat} {K83 : Nat → Int32 → Int64 → Int64 → Int32 → Sto → Option (Int32 × Sto)} (hK83 : ∀ (x0 : Nat) (x2 : Int32) (x3 : Int64) (x5 : Int64) (x7 : Int32) (σ : Sto), Sim G mX12_bestOrder 4 0 0 n0 jI 0 0 83 [(0, .ref x0), (2, .int x2), (3, .long x3), (5, .long x5), (7, .int x7)] [] σ (K83 x0 x2 x3 x5 x7 σ)) : ∀ (x0 : Nat) (x2 : Int32) (x3 : Int64) (x5 : Int64) (σ : Sto), Sim G mX12_bestOrder 4 0 0 n0 jI 0 0 159 [(0, .ref x0), (2, .int x2), (3, .long x3), (5, .long x5)] [] σ (fX12_bestOrder_b159 K83 x0 x2 x3 x5 σ) := by
  intro x0 x2 x3 x5 σ
  unfold fX12_bestOrder_b159
  refine hj_aload_n 0 dX12_bestOrder_159 rfl ?_
  refine hj_callV (ci := 12) (M' := mX12_nextOrder) (h' := 1) (As := []) mfX12_nextOrder mvX12_nextOrder ⟨_, _, rfl⟩ mlX12_410 dX12_bestOrder_160 (kX12_nextOrder G _ _) (fun _ hr => cX12_nextOrderk hr) ⟨Nat.le_of_ble_eq_true rfl, Nat.le_of_ble_eq_true rfl⟩ ⟨Nat.le_refl _, Nat.le_refl _⟩ rfl (Nat.le_of_ble_eq_true rfl) (fun r18 σ17 _ => ?_)
  refine hj_istore (lv' := [(0, .ref x0), (2, .int x2), (3, .long x3), (5, .long x5), (7, .int r18)]) dX12_bestOrder_163 (by decide) [1, 2, 3, 4, 0] rfl ?_
  refine hj_goto 83 dX12_bestOrder_165 (by decide) ?_
  refine hj_loc (lv' := [(0, .ref x0), (2, .int x2), (3, .long x3), (5, .long x5), (7, .int r18)]) [0, 1, 2, 3, 4] rfl ?_
  exact hK83 _ _ _ _ _ _
def fX12_bestOrder_b148 (K83 : Nat → Int32 → Int64 → Int64 → Int32 → Sto → Option (Int32 × Sto)) (x0 : Nat) (x2 : Int32) (σ : Sto) : Option (Int32 × Sto) := ((gL σ 12 x0 58).bind fun t6 => ((gL σ 12 x0 59).bind fun t7 => (fX12_bestOrder_b159 K83 x0 x2 t6 t7 σ)))
set_option maxHeartbeats 2000000 in
theorem sX12_bestOrder_b148 {G : GP} {n0 : Nat} {K83 : Nat → Int32 → Int64 → Int64 → Int32 → Sto → Option (Int32 × Sto)} (hK83 : ∀ (x0 : Nat) (x2 : Int32) (x3 : Int64) (x5 : Int64) (x7 : Int32) (σ : Sto), Sim G mX12_bestOrder 4 0 0 n0 jI 0 0 83 [(0, .ref x0), (2, .int x2), (3, .long x3), (5, .long x5), (7, .int x7)] [] σ (K83 x0 x2 x3 x5 x7 σ)) : ∀ (x0 : Nat) (x2 : Int32) (σ : Sto), Sim G mX12_bestOrder 4 0 0 n0 jI 0 0 148 [(0, .ref x0), (2, .int x2)] [] σ (fX12_bestOrder_b148 K83 x0 x2 σ) := by
  intro x0 x2 σ
  unfold fX12_bestOrder_b148
  refine hj_aload_n 0 dX12_bestOrder_148 rfl ?_
  refine hj_getL flX12_387 dX12_bestOrder_149 (fun t6 _ => ?_)
  refine hj_lstore_n (lv' := [(0, .ref x0), (2, .int x2), (3, .long t6)]) dX12_bestOrder_152 (by decide) [1, 2, 0] rfl ?_
  refine hj_aload_n 0 dX12_bestOrder_153 rfl ?_
  refine hj_getL flX12_383 dX12_bestOrder_154 (fun t7 _ => ?_)
  refine hj_lstore (lv' := [(0, .ref x0), (2, .int x2), (3, .long t6), (5, .long t7)]) dX12_bestOrder_157 (by decide) [1, 2, 3, 0] rfl ?_
  refine hj_loc (lv' := [(0, .ref x0), (2, .int x2), (3, .long t6), (5, .long t7)]) [0, 1, 2, 3] rfl ?_
  exact sX12_bestOrder_b159 hK83 _ _ _ _ _
def fX12_bestOrder_b118 (K83 : Nat → Int32 → Int64 → Int64 → Int32 → Sto → Option (Int32 × Sto)) : Nat → Nat → Int32 → Int32 → Sto → Option (Int32 × Sto)
  | 0, _, _, _, _ => none
  | n + 1, x0, x2, x8, σ => ((gI σ 12 x0 60).bind fun t8 => (if t8 ≤ x8 then (fX12_bestOrder_b148 K83 x0 x2 σ) else ((gR σ 12 x0 61).bind fun t9 => ((aI σ 2 t9 x8).bind fun t10 => (lt ((((((((10 : Int32)) * x2)) + t10)) + ((1 : Int32)))) fun v11 => (fX12_bestOrder_b118 K83 n x0 v11 (x8 + (1 : Int32)) σ))))))
set_option maxHeartbeats 2000000 in
theorem sX12_bestOrder_b118 {G : GP} {n0 : Nat} {K83 : Nat → Int32 → Int64 → Int64 → Int32 → Sto → Option (Int32 × Sto)} (hK83 : ∀ (x0 : Nat) (x2 : Int32) (x3 : Int64) (x5 : Int64) (x7 : Int32) (σ : Sto), Sim G mX12_bestOrder 4 0 0 n0 jI 0 0 83 [(0, .ref x0), (2, .int x2), (3, .long x3), (5, .long x5), (7, .int x7)] [] σ (K83 x0 x2 x3 x5 x7 σ)) : ∀ (n : Nat) (x0 : Nat) (x2 : Int32) (x8 : Int32) (σ : Sto), Sim G mX12_bestOrder 4 0 0 n0 jI 0 0 118 [(0, .ref x0), (2, .int x2), (8, .int x8)] [] σ (fX12_bestOrder_b118 K83 n x0 x2 x8 σ) := by
  intro n
  induction n with
  | zero => intros; rw [fX12_bestOrder_b118]; exact hj_none
  | succ n ih =>
    intro x0 x2 x8 σ
    rw [fX12_bestOrder_b118]
    refine hj_iload 2 dX12_bestOrder_118 rfl ?_
    refine hj_aload_n 0 dX12_bestOrder_120 rfl ?_
    refine hj_getI flX12_390 dX12_bestOrder_121 (fun t8 _ => ?_)
    refine hj_icmp_ge 148 dX12_bestOrder_124 (by decide) (fun _ => ?_) (fun _ => ?_)
    · refine hj_loc (lv' := [(0, .ref x0), (2, .int x2)]) [0, 1] rfl ?_
      exact sX12_bestOrder_b148 hK83 _ _ _
    · refine hj_bipush (10 : Int32) dX12_bestOrder_127 (by decide) ?_
      refine hj_iload_n 1 dX12_bestOrder_129 rfl ?_
      refine hj_imul dX12_bestOrder_130 ?_
      refine hj_aload_n 0 dX12_bestOrder_131 rfl ?_
      refine hj_getR flX12_128 dX12_bestOrder_132 (fun t9 _ => ?_)
      refine hj_iload 2 dX12_bestOrder_135 rfl ?_
      refine hj_iald dX12_bestOrder_137 (fun t10 _ => ?_)
      refine hj_iadd dX12_bestOrder_138 ?_
      refine hj_iconst (1 : Int32) dX12_bestOrder_139 (by decide) ?_
      refine hj_iadd dX12_bestOrder_140 ?_
      refine hj_ltI (fun v11 _ => ?_)
      refine hj_istore_n (lv' := [(0, .ref x0), (2, .int v11), (8, .int x8)]) dX12_bestOrder_141 (by decide) [1, 0, 2] rfl ?_
      refine hj_iinc (lv' := [(0, .ref x0), (2, .int v11), (8, .int (x8 + (1 : Int32)))]) 2 (1 : Int32) dX12_bestOrder_142 rfl (by decide) (by decide) [1, 2, 0] rfl ?_
      refine hj_goto 118 dX12_bestOrder_145 (by decide) ?_
      refine hj_loc (lv' := [(0, .ref x0), (2, .int v11), (8, .int (x8 + (1 : Int32)))]) [0, 1, 2] rfl ?_
      exact ih _ _ _ _
def fX12_bestOrder_b113 (K83 : Nat → Int32 → Int64 → Int64 → Int32 → Sto → Option (Int32 × Sto)) (x0 : Nat) (σ : Sto) : Option (Int32 × Sto) := (fX12_bestOrder_b118 K83 FU x0 ((0 : Int32)) ((0 : Int32)) σ)
set_option maxHeartbeats 2000000 in
theorem sX12_bestOrder_b113 {G : GP} {n0 : Nat} {K83 : Nat → Int32 → Int64 → Int64 → Int32 → Sto → Option (Int32 × Sto)} (hK83 : ∀ (x0 : Nat) (x2 : Int32) (x3 : Int64) (x5 : Int64) (x7 : Int32) (σ : Sto), Sim G mX12_bestOrder 4 0 0 n0 jI 0 0 83 [(0, .ref x0), (2, .int x2), (3, .long x3), (5, .long x5), (7, .int x7)] [] σ (K83 x0 x2 x3 x5 x7 σ)) : ∀ (x0 : Nat) (σ : Sto), Sim G mX12_bestOrder 4 0 0 n0 jI 0 0 113 [(0, .ref x0)] [] σ (fX12_bestOrder_b113 K83 x0 σ) := by
  intro x0 σ
  unfold fX12_bestOrder_b113
  refine hj_iconst (0 : Int32) dX12_bestOrder_113 (by decide) ?_
  refine hj_istore_n (lv' := [(0, .ref x0), (2, .int (0 : Int32))]) dX12_bestOrder_114 (by decide) [1, 0] rfl ?_
  refine hj_iconst (0 : Int32) dX12_bestOrder_115 (by decide) ?_
  refine hj_istore (lv' := [(0, .ref x0), (2, .int (0 : Int32)), (8, .int (0 : Int32))]) dX12_bestOrder_116 (by decide) [1, 2, 0] rfl ?_
  refine hj_loc (lv' := [(0, .ref x0), (2, .int (0 : Int32)), (8, .int (0 : Int32))]) [0, 1, 2] rfl ?_
  exact sX12_bestOrder_b118 hK83 _ _ _ _ _
def fX12_bestOrder_b83 : Nat → Nat → Int32 → Int64 → Int64 → Int32 → Sto → Option (Int32 × Sto)
  | 0, _, _, _, _, _, _ => none
  | n + 1, x0, x2, x3, x5, x7, σ => (if x7 = 0 then (some (x2, σ)) else (cb (fX12_reaches x0 σ) fun _ σ1 => (if x2 < 0 then (fX12_bestOrder_b113 (fX12_bestOrder_b83 n) x0 σ1) else ((gL σ1 12 x0 58).bind fun t2 => ((gL σ1 12 x0 59).bind fun t3 => (cb (fX12_isMore t2 t3 x3 x5 σ1) fun r5 σ4 => (if r5 = 0 then (fX12_bestOrder_b159 (fX12_bestOrder_b83 n) x0 x2 x3 x5 σ4) else (fX12_bestOrder_b113 (fX12_bestOrder_b83 n) x0 σ4))))))))
set_option maxHeartbeats 2000000 in
theorem sX12_bestOrder_b83 {G : GP} {n0 : Nat} : ∀ (n : Nat) (x0 : Nat) (x2 : Int32) (x3 : Int64) (x5 : Int64) (x7 : Int32) (σ : Sto), Sim G mX12_bestOrder 4 0 0 n0 jI 0 0 83 [(0, .ref x0), (2, .int x2), (3, .long x3), (5, .long x5), (7, .int x7)] [] σ (fX12_bestOrder_b83 n x0 x2 x3 x5 x7 σ) := by
  intro n
  induction n with
  | zero => intros; rw [fX12_bestOrder_b83]; exact hj_none
  | succ n ih =>
    intro x0 x2 x3 x5 x7 σ
    rw [fX12_bestOrder_b83]
    refine hj_iload 4 dX12_bestOrder_83 rfl ?_
    refine hj_if_eq 168 dX12_bestOrder_85 (by decide) (fun _ => ?_) (fun _ => ?_)
    · refine hj_iload_n 1 dX12_bestOrder_168 rfl ?_
      exact hj_iret dX12_bestOrder_169 rfl rfl (Nat.le_refl _)
    · refine hj_aload_n 0 dX12_bestOrder_88 rfl ?_
      refine hj_callV (ci := 12) (M' := mX12_reaches) (h' := 3) (As := []) mfX12_reaches mvX12_reaches ⟨_, _, rfl⟩ mlX12_403 dX12_bestOrder_89 (kX12_reaches G _ _) (fun _ hr => cX12_reachesk hr) ⟨Nat.le_of_ble_eq_true rfl, Nat.le_of_ble_eq_true rfl⟩ ⟨Nat.le_refl _, Nat.le_refl _⟩ rfl (Nat.le_of_ble_eq_true rfl) (fun _ σ1 _ => ?_)
      refine hj_iload_n 1 dX12_bestOrder_92 rfl ?_
      refine hj_if_lt 113 dX12_bestOrder_93 (by decide) (fun _ => ?_) (fun _ => ?_)
      · refine hj_loc (lv' := [(0, .ref x0)]) [0] rfl ?_
        exact sX12_bestOrder_b113 ih _ _
      · refine hj_aload_n 0 dX12_bestOrder_96 rfl ?_
        refine hj_getL flX12_387 dX12_bestOrder_97 (fun t2 _ => ?_)
        refine hj_aload_n 0 dX12_bestOrder_100 rfl ?_
        refine hj_getL flX12_383 dX12_bestOrder_101 (fun t3 _ => ?_)
        refine hj_lload_n 2 dX12_bestOrder_104 rfl ?_
        refine hj_lload 3 dX12_bestOrder_105 rfl ?_
        refine hj_callS (M' := mX12_isMore) (h' := 1) (As := [.long t2, .long t3, .long x3, .long x5]) mfX12_isMore msX12_isMore mlX12_406 dX12_bestOrder_107 (kX12_isMore G _ _ _ _ _) ⟨Nat.le_of_ble_eq_true rfl, Nat.le_of_ble_eq_true rfl⟩ ⟨Nat.le_refl _, Nat.le_refl _⟩ rfl (Nat.le_of_ble_eq_true rfl) (fun r5 σ4 _ => ?_)
        refine hj_if_eq 159 dX12_bestOrder_110 (by decide) (fun _ => ?_) (fun _ => ?_)
        · refine hj_loc (lv' := [(0, .ref x0), (2, .int x2), (3, .long x3), (5, .long x5)]) [0, 1, 2, 3] rfl ?_
          exact sX12_bestOrder_b159 ih _ _ _ _ _
        · refine hj_loc (lv' := [(0, .ref x0)]) [0] rfl ?_
          exact sX12_bestOrder_b113 ih _ _
def fX12_bestOrder_b73 (x0 : Nat) (σ : Sto) : Option (Int32 × Sto) := (fX12_bestOrder_b83 FU x0 ((-1 : Int32)) ((0 : Int64)) ((1 : Int64)) ((1 : Int32)) σ)
set_option maxHeartbeats 2000000 in
theorem sX12_bestOrder_b73 {G : GP} {n0 : Nat} : ∀ (x0 : Nat) (σ : Sto), Sim G mX12_bestOrder 4 0 0 n0 jI 0 0 73 [(0, .ref x0)] [] σ (fX12_bestOrder_b73 x0 σ) := by
  intro x0 σ
  unfold fX12_bestOrder_b73
  refine hj_iconst (-1 : Int32) dX12_bestOrder_73 (by decide) ?_
  refine hj_istore_n (lv' := [(0, .ref x0), (2, .int (-1 : Int32))]) dX12_bestOrder_74 (by decide) [1, 0] rfl ?_
  refine hj_lconst (0 : Int64) dX12_bestOrder_75 (by decide) ?_
  refine hj_lstore_n (lv' := [(0, .ref x0), (2, .int (-1 : Int32)), (3, .long (0 : Int64))]) dX12_bestOrder_76 (by decide) [1, 2, 0] rfl ?_
  refine hj_lconst (1 : Int64) dX12_bestOrder_77 (by decide) ?_
  refine hj_lstore (lv' := [(0, .ref x0), (2, .int (-1 : Int32)), (3, .long (0 : Int64)), (5, .long (1 : Int64))]) dX12_bestOrder_78 (by decide) [1, 2, 3, 0] rfl ?_
  refine hj_iconst (1 : Int32) dX12_bestOrder_80 (by decide) ?_
  refine hj_istore (lv' := [(0, .ref x0), (2, .int (-1 : Int32)), (3, .long (0 : Int64)), (5, .long (1 : Int64)), (7, .int (1 : Int32))]) dX12_bestOrder_81 (by decide) [1, 2, 3, 4, 0] rfl ?_
  refine hj_loc (lv' := [(0, .ref x0), (2, .int (-1 : Int32)), (3, .long (0 : Int64)), (5, .long (1 : Int64)), (7, .int (1 : Int32))]) [0, 1, 2, 3, 4] rfl ?_
  exact sX12_bestOrder_b83 _ _ _ _ _ _ _
def fX12_bestOrder_b67 (K30 : Nat → Int32 → Int32 → Sto → Option (Int32 × Sto)) (x0 : Nat) (x1 : Int32) (x2 : Int32) (σ : Sto) : Option (Int32 × Sto) := (K30 x0 x1 (x2 + (1 : Int32)) σ)
set_option maxHeartbeats 2000000 in
theorem sX12_bestOrder_b67 {G : GP} {n0 : Nat} {K30 : Nat → Int32 → Int32 → Sto → Option (Int32 × Sto)} (hK30 : ∀ (x0 : Nat) (x1 : Int32) (x2 : Int32) (σ : Sto), Sim G mX12_bestOrder 4 0 0 n0 jI 0 0 30 [(0, .ref x0), (1, .int x1), (2, .int x2)] [] σ (K30 x0 x1 x2 σ)) : ∀ (x0 : Nat) (x1 : Int32) (x2 : Int32) (σ : Sto), Sim G mX12_bestOrder 4 0 0 n0 jI 0 0 67 [(0, .ref x0), (1, .int x1), (2, .int x2)] [] σ (fX12_bestOrder_b67 K30 x0 x1 x2 σ) := by
  intro x0 x1 x2 σ
  unfold fX12_bestOrder_b67
  refine hj_iinc (lv' := [(0, .ref x0), (1, .int x1), (2, .int (x2 + (1 : Int32)))]) 2 (1 : Int32) dX12_bestOrder_67 rfl (by decide) (by decide) [1, 2, 0] rfl ?_
  refine hj_goto 30 dX12_bestOrder_70 (by decide) ?_
  refine hj_loc (lv' := [(0, .ref x0), (1, .int x1), (2, .int (x2 + (1 : Int32)))]) [0, 1, 2] rfl ?_
  exact hK30 _ _ _ _
def fX12_bestOrder_b30 : Nat → Nat → Int32 → Int32 → Sto → Option (Int32 × Sto)
  | 0, _, _, _, _ => none
  | n + 1, x0, x1, x2, σ => (if (6 : Int32) ≤ x2 then (fX12_bestOrder_b73 x0 σ) else (if (((x1 >>> (x2 &&& 31))) &&& ((1 : Int32))) = 0 then (fX12_bestOrder_b67 (fX12_bestOrder_b30 n) x0 x1 x2 σ) else ((gR σ 12 x0 61).bind fun t12 => ((gI σ 12 x0 60).bind fun t13 => ((sI σ 2 t12 t13 x2).bind fun σ14 => ((gI σ14 12 x0 60).bind fun t15 => ((pV σ14 12 x0 60 (.int ((t15 + ((1 : Int32)))))).bind fun σ16 => (fX12_bestOrder_b67 (fX12_bestOrder_b30 n) x0 x1 x2 σ16))))))))
set_option maxHeartbeats 2000000 in
theorem sX12_bestOrder_b30 {G : GP} {n0 : Nat} : ∀ (n : Nat) (x0 : Nat) (x1 : Int32) (x2 : Int32) (σ : Sto), Sim G mX12_bestOrder 4 0 0 n0 jI 0 0 30 [(0, .ref x0), (1, .int x1), (2, .int x2)] [] σ (fX12_bestOrder_b30 n x0 x1 x2 σ) := by
  intro n
  induction n with
  | zero => intros; rw [fX12_bestOrder_b30]; exact hj_none
  | succ n ih =>
    intro x0 x1 x2 σ
    rw [fX12_bestOrder_b30]
    refine hj_iload_n 2 dX12_bestOrder_30 rfl ?_
    refine hj_bipush (6 : Int32) dX12_bestOrder_31 (by decide) ?_
    refine hj_icmp_ge 73 dX12_bestOrder_33 (by decide) (fun _ => ?_) (fun _ => ?_)
    · refine hj_loc (lv' := [(0, .ref x0)]) [0] rfl ?_
      exact sX12_bestOrder_b73 _ _
    · refine hj_iload_n 1 dX12_bestOrder_36 rfl ?_
      refine hj_iload_n 2 dX12_bestOrder_37 rfl ?_
      refine hj_ishr dX12_bestOrder_38 ?_
      refine hj_iconst (1 : Int32) dX12_bestOrder_39 (by decide) ?_
      refine hj_iand dX12_bestOrder_40 ?_
      refine hj_if_ne 47 dX12_bestOrder_41 (by decide) (fun _ => ?_) (fun _ => ?_)
      · refine hj_aload_n 0 dX12_bestOrder_47 rfl ?_
        refine hj_getR flX12_128 dX12_bestOrder_48 (fun t12 _ => ?_)
        refine hj_aload_n 0 dX12_bestOrder_51 rfl ?_
        refine hj_getI flX12_390 dX12_bestOrder_52 (fun t13 _ => ?_)
        refine hj_iload_n 2 dX12_bestOrder_55 rfl ?_
        refine hj_iast dX12_bestOrder_56 (fun σ14 _ => ?_)
        refine hj_aload_n 0 dX12_bestOrder_57 rfl ?_
        refine hj_dup dX12_bestOrder_58 rfl ?_
        refine hj_getI flX12_390 dX12_bestOrder_59 (fun t15 _ => ?_)
        refine hj_iconst (1 : Int32) dX12_bestOrder_62 (by decide) ?_
        refine hj_iadd dX12_bestOrder_63 ?_
        refine hj_put (fpX12_390 _) (fun _ => rfl) (fun _ => rfl) dX12_bestOrder_64 (fun σ16 _ => ?_)
        refine hj_loc (lv' := [(0, .ref x0), (1, .int x1), (2, .int x2)]) [0, 1, 2] rfl ?_
        exact sX12_bestOrder_b67 ih _ _ _ _
      · refine hj_goto 67 dX12_bestOrder_44 (by decide) ?_
        refine hj_loc (lv' := [(0, .ref x0), (1, .int x1), (2, .int x2)]) [0, 1, 2] rfl ?_
        exact sX12_bestOrder_b67 ih _ _ _ _
def fX12_bestOrder (a0 : Nat) (a1 : Int32) (σ : Sto) : Option (Int32 × Sto) := ck σ 12 a0 ((gR σ 12 a0 22).bind fun t19 => ((gI σ 12 a0 18).bind fun t20 => ((aI σ 2 t19 t20).bind fun t21 => (cb (fX12_in a1 ((1 : Int32)) ((((((1 : Int32)) <<< (t21 &&& 31))) - ((1 : Int32)))) σ) fun r23 σ22 => (if r23 = 0 then (some ((-1 : Int32), σ22)) else ((pV σ22 12 a0 60 (.int ((0 : Int32)))).bind fun σ24 => (fX12_bestOrder_b30 FU a0 a1 ((0 : Int32)) σ24)))))))
set_option maxHeartbeats 2000000 in
theorem kX12_bestOrder (G : GP) (a0 : Nat) (a1 : Int32) (σ : Sto) : Me G mX12_bestOrder 4 0 0 jI [.ref a0, .int a1] σ (fX12_bestOrder a0 a1 σ) := by
  refine hs_me (lv := [(0, .ref a0), (1, .int a1)]) (plainFor_of_name (by decide +kernel)) (Nat.le_of_ble_eq_true rfl) rfl ?_
  unfold fX12_bestOrder
  refine hj_ck ?_
  refine hj_iload_n 1 dX12_bestOrder_0 rfl ?_
  refine hj_iconst (1 : Int32) dX12_bestOrder_1 (by decide) ?_
  refine hj_iconst (1 : Int32) dX12_bestOrder_2 (by decide) ?_
  refine hj_aload_n 0 dX12_bestOrder_3 rfl ?_
  refine hj_getR flX12_43 dX12_bestOrder_4 (fun t19 _ => ?_)
  refine hj_aload_n 0 dX12_bestOrder_7 rfl ?_
  refine hj_getI flX12_221 dX12_bestOrder_8 (fun t20 _ => ?_)
  refine hj_iald dX12_bestOrder_11 (fun t21 _ => ?_)
  refine hj_ishl dX12_bestOrder_12 ?_
  refine hj_iconst (1 : Int32) dX12_bestOrder_13 (by decide) ?_
  refine hj_isub dX12_bestOrder_14 ?_
  refine hj_callS (M' := mX12_in) (h' := 1) (As := [.int a1, .int ((1 : Int32)), .int ((((((1 : Int32)) <<< (t21 &&& 31))) - ((1 : Int32))))]) mfX12_in msX12_in mlX12_298 dX12_bestOrder_15 (kX12_in G _ _ _ _) ⟨Nat.le_of_ble_eq_true rfl, Nat.le_of_ble_eq_true rfl⟩ ⟨Nat.le_refl _, Nat.le_refl _⟩ rfl (Nat.le_of_ble_eq_true rfl) (fun r23 σ22 _ => ?_)
  refine hj_if_ne 23 dX12_bestOrder_18 (by decide) (fun _ => ?_) (fun _ => ?_)
  · refine hj_aload_n 0 dX12_bestOrder_23 rfl ?_
    refine hj_iconst (0 : Int32) dX12_bestOrder_24 (by decide) ?_
    refine hj_put (fpX12_390 _) (fun _ => rfl) (fun _ => rfl) dX12_bestOrder_25 (fun σ24 _ => ?_)
    refine hj_iconst (0 : Int32) dX12_bestOrder_28 (by decide) ?_
    refine hj_istore_n (lv' := [(0, .ref a0), (1, .int a1), (2, .int (0 : Int32))]) dX12_bestOrder_29 (by decide) [1, 2, 0] rfl ?_
    refine hj_loc (lv' := [(0, .ref a0), (1, .int a1), (2, .int (0 : Int32))]) [0, 1, 2] rfl ?_
    exact sX12_bestOrder_b30 _ _ _ _ _
  · refine hj_iconst (-1 : Int32) dX12_bestOrder_21 (by decide) ?_
    exact hj_iret dX12_bestOrder_22 rfl rfl (Nat.le_refl _)
theorem cX12_bestOrderk {a0 : Nat} {a1 : Int32} {σ : Sto} {r : Int32 × Sto} (h : fX12_bestOrder a0 a1 σ = some r) : ∃ fs, hs_o σ 12 a0 = some fs := (ck_of h).1
def fX12_alikes_b12 : Nat → Nat → Int32 → Int32 → Sto → Option (Unit × Sto)
  | 0, _, _, _, _ => none
  | n + 1, x0, x1, x2, σ => (if x1 < x2 then (some ((), σ)) else (cb (fX12_adds x0 ((1 : Int64)) ((((2 : Int64)) * ((x2.toInt64)))) σ) fun _ σ1 => (fX12_alikes_b12 n x0 x1 (x2 + (1 : Int32)) σ1)))
set_option maxHeartbeats 2000000 in
theorem sX12_alikes_b12 {G : GP} {n0 : Nat} : ∀ (n : Nat) (x0 : Nat) (x1 : Int32) (x2 : Int32) (σ : Sto), Sim G mX12_alikes 3 0 0 n0 jV 0 0 12 [(0, .ref x0), (1, .int x1), (2, .int x2)] [] σ (fX12_alikes_b12 n x0 x1 x2 σ) := by
  intro n
  induction n with
  | zero => intros; rw [fX12_alikes_b12]; exact hj_none
  | succ n ih =>
    intro x0 x1 x2 σ
    rw [fX12_alikes_b12]
    refine hj_iload_n 2 dX12_alikes_12 rfl ?_
    refine hj_iload_n 1 dX12_alikes_13 rfl ?_
    refine hj_icmp_gt 34 dX12_alikes_14 (by decide) (fun _ => ?_) (fun _ => ?_)
    · exact hj_vret dX12_alikes_34 rfl rfl (Nat.le_refl _)
    · refine hj_aload_n 0 dX12_alikes_17 rfl ?_
      refine hj_lconst (1 : Int64) dX12_alikes_18 (by decide) ?_
      refine hj_ldc2 (2 : Int64) kcX12_320 dX12_alikes_19 ?_
      refine hj_iload_n 2 dX12_alikes_22 rfl ?_
      refine hj_i2l dX12_alikes_23 ?_
      refine hj_lmul dX12_alikes_24 ?_
      refine hj_callV (ci := 12) (M' := mX12_adds) (h' := 2) (As := [.long ((1 : Int64)), .long ((((2 : Int64)) * ((x2.toInt64))))]) mfX12_adds mvX12_adds ⟨_, _, rfl⟩ mlX12_393 dX12_alikes_25 (kX12_adds G _ _ _ _) (fun _ hr => cX12_addsk hr) ⟨Nat.le_of_ble_eq_true rfl, Nat.le_of_ble_eq_true rfl⟩ ⟨Nat.le_refl _, Nat.le_refl _⟩ rfl (Nat.le_of_ble_eq_true rfl) (fun _ σ1 _ => ?_)
      refine hj_iinc (lv' := [(0, .ref x0), (1, .int x1), (2, .int (x2 + (1 : Int32)))]) 2 (1 : Int32) dX12_alikes_28 rfl (by decide) (by decide) [1, 2, 0] rfl ?_
      refine hj_goto 12 dX12_alikes_31 (by decide) ?_
      refine hj_loc (lv' := [(0, .ref x0), (1, .int x1), (2, .int (x2 + (1 : Int32)))]) [0, 1, 2] rfl ?_
      exact ih _ _ _ _
def fX12_alikes (a0 : Nat) (a1 : Int32) (σ : Sto) : Option (Unit × Sto) := ck σ 12 a0 ((pV σ 12 a0 58 (.long ((0 : Int64)))).bind fun σ2 => ((pV σ2 12 a0 59 (.long ((1 : Int64)))).bind fun σ3 => (fX12_alikes_b12 FU a0 a1 ((1 : Int32)) σ3)))
set_option maxHeartbeats 2000000 in
theorem kX12_alikes (G : GP) (a0 : Nat) (a1 : Int32) (σ : Sto) : Me G mX12_alikes 3 0 0 jV [.ref a0, .int a1] σ (fX12_alikes a0 a1 σ) := by
  refine hs_me (lv := [(0, .ref a0), (1, .int a1)]) (plainFor_of_name (by decide +kernel)) (Nat.le_of_ble_eq_true rfl) rfl ?_
  unfold fX12_alikes
  refine hj_ck ?_
  refine hj_aload_n 0 dX12_alikes_0 rfl ?_
  refine hj_lconst (0 : Int64) dX12_alikes_1 (by decide) ?_
  refine hj_put (fpX12_387 _) (fun _ => rfl) (fun _ => rfl) dX12_alikes_2 (fun σ2 _ => ?_)
  refine hj_aload_n 0 dX12_alikes_5 rfl ?_
  refine hj_lconst (1 : Int64) dX12_alikes_6 (by decide) ?_
  refine hj_put (fpX12_383 _) (fun _ => rfl) (fun _ => rfl) dX12_alikes_7 (fun σ3 _ => ?_)
  refine hj_iconst (1 : Int32) dX12_alikes_10 (by decide) ?_
  refine hj_istore_n (lv' := [(0, .ref a0), (1, .int a1), (2, .int (1 : Int32))]) dX12_alikes_11 (by decide) [1, 2, 0] rfl ?_
  refine hj_loc (lv' := [(0, .ref a0), (1, .int a1), (2, .int (1 : Int32))]) [0, 1, 2] rfl ?_
  exact sX12_alikes_b12 _ _ _ _ _
theorem cX12_alikesk {a0 : Nat} {a1 : Int32} {σ : Sto} {r : Unit × Sto} (h : fX12_alikes a0 a1 σ = some r) : ∃ fs, hs_o σ 12 a0 = some fs := (ck_of h).1
def fX12_alike (a0 : Nat) (a1 : Int32) (a2 : Int32) (σ : Sto) : Option (Int64 × Sto) := ck σ 12 a0 (cb (fX12_in a1 ((1 : Int32)) ((40 : Int32)) σ) fun r2 σ1 => (if r2 = 0 then (some ((-1 : Int64), σ1)) else (cb (fX12_alikes a0 a1 σ1) fun _ σ3 => (if a2 = 0 then ((gL σ3 12 a0 58).bind fun t4 => (some (t4, σ3))) else ((gL σ3 12 a0 59).bind fun t5 => (some (t5, σ3)))))))
set_option maxHeartbeats 2000000 in
theorem kX12_alike (G : GP) (a0 : Nat) (a1 : Int32) (a2 : Int32) (σ : Sto) : Me G mX12_alike 4 0 0 jL [.ref a0, .int a1, .int a2] σ (fX12_alike a0 a1 a2 σ) := by
  refine hs_me (lv := [(0, .ref a0), (1, .int a1), (2, .int a2)]) (plainFor_of_name (by decide +kernel)) (Nat.le_of_ble_eq_true rfl) rfl ?_
  unfold fX12_alike
  refine hj_ck ?_
  refine hj_iload_n 1 dX12_alike_0 rfl ?_
  refine hj_iconst (1 : Int32) dX12_alike_1 (by decide) ?_
  refine hj_bipush (40 : Int32) dX12_alike_2 (by decide) ?_
  refine hj_callS (M' := mX12_in) (h' := 1) (As := [.int a1, .int ((1 : Int32)), .int ((40 : Int32))]) mfX12_in msX12_in mlX12_298 dX12_alike_4 (kX12_in G _ _ _ _) ⟨Nat.le_of_ble_eq_true rfl, Nat.le_of_ble_eq_true rfl⟩ ⟨Nat.le_refl _, Nat.le_refl _⟩ rfl (Nat.le_of_ble_eq_true rfl) (fun r2 σ1 _ => ?_)
  refine hj_if_ne 14 dX12_alike_7 (by decide) (fun _ => ?_) (fun _ => ?_)
  · refine hj_aload_n 0 dX12_alike_14 rfl ?_
    refine hj_iload_n 1 dX12_alike_15 rfl ?_
    refine hj_callV (ci := 12) (M' := mX12_alikes) (h' := 3) (As := [.int a1]) mfX12_alikes mvX12_alikes ⟨_, _, rfl⟩ mlX12_414 dX12_alike_16 (kX12_alikes G _ _ _) (fun _ hr => cX12_alikesk hr) ⟨Nat.le_of_ble_eq_true rfl, Nat.le_of_ble_eq_true rfl⟩ ⟨Nat.le_refl _, Nat.le_refl _⟩ rfl (Nat.le_of_ble_eq_true rfl) (fun _ σ3 _ => ?_)
    refine hj_iload_n 2 dX12_alike_19 rfl ?_
    refine hj_if_eq 30 dX12_alike_20 (by decide) (fun _ => ?_) (fun _ => ?_)
    · refine hj_aload_n 0 dX12_alike_30 rfl ?_
      refine hj_getL flX12_387 dX12_alike_31 (fun t4 _ => ?_)
      exact hj_lret dX12_alike_34 rfl rfl (Nat.le_refl _)
    · refine hj_aload_n 0 dX12_alike_23 rfl ?_
      refine hj_getL flX12_383 dX12_alike_24 (fun t5 _ => ?_)
      refine hj_goto 34 dX12_alike_27 (by decide) ?_
      exact hj_lret dX12_alike_34 rfl rfl (Nat.le_refl _)
  · refine hj_ldc2 (-1 : Int64) kcX12_401 dX12_alike_10 ?_
    exact hj_lret dX12_alike_13 rfl rfl (Nat.le_refl _)
theorem cX12_alikek {a0 : Nat} {a1 : Int32} {a2 : Int32} {σ : Sto} {r : Int64 × Sto} (h : fX12_alike a0 a1 a2 σ = some r) : ∃ fs, hs_o σ 12 a0 = some fs := (ck_of h).1
def fX12_needed_b24 : Nat → Nat → Int32 → Int32 → Int32 → Sto → Option (Int32 × Sto)
  | 0, _, _, _, _, _ => none
  | n + 1, x0, x1, x2, x3, σ => (if (40 : Int32) < x3 then (some ((-2 : Int32), σ)) else (cb (fX12_alikes x0 x3 σ) fun _ σ1 => ((gL σ1 12 x0 58).bind fun t2 => ((gL σ1 12 x0 59).bind fun t3 => (if (lg_cmp ((t2 * ((x2.toInt64)))) ((((x1.toInt64)) * t3))) < 0 then (fX12_needed_b24 n x0 x1 x2 (x3 + (1 : Int32)) σ1) else (some (x3, σ1)))))))
set_option maxHeartbeats 2000000 in
theorem sX12_needed_b24 {G : GP} {n0 : Nat} : ∀ (n : Nat) (x0 : Nat) (x1 : Int32) (x2 : Int32) (x3 : Int32) (σ : Sto), Sim G mX12_needed 4 0 0 n0 jI 0 0 24 [(0, .ref x0), (1, .int x1), (2, .int x2), (3, .int x3)] [] σ (fX12_needed_b24 n x0 x1 x2 x3 σ) := by
  intro n
  induction n with
  | zero => intros; rw [fX12_needed_b24]; exact hj_none
  | succ n ih =>
    intro x0 x1 x2 x3 σ
    rw [fX12_needed_b24]
    refine hj_iload_n 3 dX12_needed_24 rfl ?_
    refine hj_bipush (40 : Int32) dX12_needed_25 (by decide) ?_
    refine hj_icmp_gt 61 dX12_needed_27 (by decide) (fun _ => ?_) (fun _ => ?_)
    · refine hj_bipush (-2 : Int32) dX12_needed_61 (by decide) ?_
      exact hj_iret dX12_needed_63 rfl rfl (Nat.le_refl _)
    · refine hj_aload_n 0 dX12_needed_30 rfl ?_
      refine hj_iload_n 3 dX12_needed_31 rfl ?_
      refine hj_callV (ci := 12) (M' := mX12_alikes) (h' := 3) (As := [.int x3]) mfX12_alikes mvX12_alikes ⟨_, _, rfl⟩ mlX12_414 dX12_needed_32 (kX12_alikes G _ _ _) (fun _ hr => cX12_alikesk hr) ⟨Nat.le_of_ble_eq_true rfl, Nat.le_of_ble_eq_true rfl⟩ ⟨Nat.le_refl _, Nat.le_refl _⟩ rfl (Nat.le_of_ble_eq_true rfl) (fun _ σ1 _ => ?_)
      refine hj_aload_n 0 dX12_needed_35 rfl ?_
      refine hj_getL flX12_387 dX12_needed_36 (fun t2 _ => ?_)
      refine hj_iload_n 2 dX12_needed_39 rfl ?_
      refine hj_i2l dX12_needed_40 ?_
      refine hj_lmul dX12_needed_41 ?_
      refine hj_iload_n 1 dX12_needed_42 rfl ?_
      refine hj_i2l dX12_needed_43 ?_
      refine hj_aload_n 0 dX12_needed_44 rfl ?_
      refine hj_getL flX12_383 dX12_needed_45 (fun t3 _ => ?_)
      refine hj_lmul dX12_needed_48 ?_
      refine hj_lcmp dX12_needed_49 ?_
      refine hj_if_lt 55 dX12_needed_50 (by decide) (fun _ => ?_) (fun _ => ?_)
      · refine hj_iinc (lv' := [(0, .ref x0), (1, .int x1), (2, .int x2), (3, .int (x3 + (1 : Int32)))]) 3 (1 : Int32) dX12_needed_55 rfl (by decide) (by decide) [1, 2, 3, 0] rfl ?_
        refine hj_goto 24 dX12_needed_58 (by decide) ?_
        refine hj_loc (lv' := [(0, .ref x0), (1, .int x1), (2, .int x2), (3, .int (x3 + (1 : Int32)))]) [0, 1, 2, 3] rfl ?_
        exact ih _ _ _ _ _
      · refine hj_iload_n 3 dX12_needed_53 rfl ?_
        exact hj_iret dX12_needed_54 rfl rfl (Nat.le_refl _)
def fX12_needed (a0 : Nat) (a1 : Int32) (a2 : Int32) (σ : Sto) : Option (Int32 × Sto) := ck σ 12 a0 (cb (fX12_in a1 ((0 : Int32)) ((99 : Int32)) σ) fun r5 σ4 => (if r5 = 0 then (some ((-1 : Int32), σ4)) else (cb (fX12_in a2 ((1 : Int32)) ((99 : Int32)) σ4) fun r7 σ6 => (if r7 = 0 then (some ((-1 : Int32), σ6)) else (fX12_needed_b24 FU a0 a1 a2 ((1 : Int32)) σ6)))))
set_option maxHeartbeats 2000000 in
theorem kX12_needed (G : GP) (a0 : Nat) (a1 : Int32) (a2 : Int32) (σ : Sto) : Me G mX12_needed 4 0 0 jI [.ref a0, .int a1, .int a2] σ (fX12_needed a0 a1 a2 σ) := by
  refine hs_me (lv := [(0, .ref a0), (1, .int a1), (2, .int a2)]) (plainFor_of_name (by decide +kernel)) (Nat.le_of_ble_eq_true rfl) rfl ?_
  unfold fX12_needed
  refine hj_ck ?_
  refine hj_iload_n 1 dX12_needed_0 rfl ?_
  refine hj_iconst (0 : Int32) dX12_needed_1 (by decide) ?_
  refine hj_bipush (99 : Int32) dX12_needed_2 (by decide) ?_
  refine hj_callS (M' := mX12_in) (h' := 1) (As := [.int a1, .int ((0 : Int32)), .int ((99 : Int32))]) mfX12_in msX12_in mlX12_298 dX12_needed_4 (kX12_in G _ _ _ _) ⟨Nat.le_of_ble_eq_true rfl, Nat.le_of_ble_eq_true rfl⟩ ⟨Nat.le_refl _, Nat.le_refl _⟩ rfl (Nat.le_of_ble_eq_true rfl) (fun r5 σ4 _ => ?_)
  refine hj_if_eq 20 dX12_needed_7 (by decide) (fun _ => ?_) (fun _ => ?_)
  · refine hj_iconst (-1 : Int32) dX12_needed_20 (by decide) ?_
    exact hj_iret dX12_needed_21 rfl rfl (Nat.le_refl _)
  · refine hj_iload_n 2 dX12_needed_10 rfl ?_
    refine hj_iconst (1 : Int32) dX12_needed_11 (by decide) ?_
    refine hj_bipush (99 : Int32) dX12_needed_12 (by decide) ?_
    refine hj_callS (M' := mX12_in) (h' := 1) (As := [.int a2, .int ((1 : Int32)), .int ((99 : Int32))]) mfX12_in msX12_in mlX12_298 dX12_needed_14 (kX12_in G _ _ _ _) ⟨Nat.le_of_ble_eq_true rfl, Nat.le_of_ble_eq_true rfl⟩ ⟨Nat.le_refl _, Nat.le_refl _⟩ rfl (Nat.le_of_ble_eq_true rfl) (fun r7 σ6 _ => ?_)
    refine hj_if_ne 22 dX12_needed_17 (by decide) (fun _ => ?_) (fun _ => ?_)
    · refine hj_iconst (1 : Int32) dX12_needed_22 (by decide) ?_
      refine hj_istore_n (lv' := [(0, .ref a0), (1, .int a1), (2, .int a2), (3, .int (1 : Int32))]) dX12_needed_23 (by decide) [1, 2, 3, 0] rfl ?_
      refine hj_loc (lv' := [(0, .ref a0), (1, .int a1), (2, .int a2), (3, .int (1 : Int32))]) [0, 1, 2, 3] rfl ?_
      exact sX12_needed_b24 _ _ _ _ _ _
    · refine hj_iconst (-1 : Int32) dX12_needed_20 (by decide) ?_
      exact hj_iret dX12_needed_21 rfl rfl (Nat.le_refl _)
theorem cX12_neededk {a0 : Nat} {a1 : Int32} {a2 : Int32} {σ : Sto} {r : Int32 × Sto} (h : fX12_needed a0 a1 a2 σ = some r) : ∃ fs, hs_o σ 12 a0 = some fs := (ck_of h).1
def fX12_see_b45 (x0 : Nat) (x1 : Int32) (σ : Sto) : Option (Int32 × Sto) := ((gR σ 12 x0 64).bind fun t1 => ((gI σ 12 x0 62).bind fun t2 => ((sI σ 4 t1 t2 x1).bind fun σ3 => ((gI σ3 12 x0 62).bind fun t4 => ((pV σ3 12 x0 62 (.int ((t4 + ((1 : Int32)))))).bind fun σ5 => ((gI σ5 12 x0 62).bind fun t6 => (some ((t6 - ((1 : Int32))), σ5))))))))
set_option maxHeartbeats 2000000 in
theorem sX12_see_b45 {G : GP} {n0 : Nat} : ∀ (x0 : Nat) (x1 : Int32) (σ : Sto), Sim G mX12_see 1 0 0 n0 jI 0 0 45 [(0, .ref x0), (1, .int x1)] [] σ (fX12_see_b45 x0 x1 σ) := by
  intro x0 x1 σ
  unfold fX12_see_b45
  refine hj_aload_n 0 dX12_see_45 rfl ?_
  refine hj_getR flX12_134 dX12_see_46 (fun t1 _ => ?_)
  refine hj_aload_n 0 dX12_see_49 rfl ?_
  refine hj_getI flX12_242 dX12_see_50 (fun t2 _ => ?_)
  refine hj_iload_n 1 dX12_see_53 rfl ?_
  refine hj_zast dX12_see_54 (fun σ3 _ => ?_)
  refine hj_aload_n 0 dX12_see_55 rfl ?_
  refine hj_dup dX12_see_56 rfl ?_
  refine hj_getI flX12_242 dX12_see_57 (fun t4 _ => ?_)
  refine hj_iconst (1 : Int32) dX12_see_60 (by decide) ?_
  refine hj_iadd dX12_see_61 ?_
  refine hj_put (fpX12_242 _) (fun _ => rfl) (fun _ => rfl) dX12_see_62 (fun σ5 _ => ?_)
  refine hj_aload_n 0 dX12_see_65 rfl ?_
  refine hj_getI flX12_242 dX12_see_66 (fun t6 _ => ?_)
  refine hj_iconst (1 : Int32) dX12_see_69 (by decide) ?_
  refine hj_isub dX12_see_70 ?_
  exact hj_iret dX12_see_71 rfl rfl (Nat.le_refl _)
def fX12_see_b13 : Nat → Nat → Int32 → Int32 → Sto → Option (Int32 × Sto)
  | 0, _, _, _, _ => none
  | n + 1, x0, x1, x2, σ => (if (20 : Int32) ≤ x2 then (fX12_see_b45 x0 x1 σ) else ((gR σ 12 x0 63).bind fun t7 => ((gI σ 12 x0 62).bind fun t8 => ((gR σ 12 x0 47).bind fun t9 => ((aI σ 2 t9 x2).bind fun t10 => ((sI σ 2 t7 ((((((20 : Int32)) * t8)) + x2)) t10).bind fun σ11 => (fX12_see_b13 n x0 x1 (x2 + (1 : Int32)) σ11)))))))
set_option maxHeartbeats 2000000 in
theorem sX12_see_b13 {G : GP} {n0 : Nat} : ∀ (n : Nat) (x0 : Nat) (x1 : Int32) (x2 : Int32) (σ : Sto), Sim G mX12_see 1 0 0 n0 jI 0 0 13 [(0, .ref x0), (1, .int x1), (2, .int x2)] [] σ (fX12_see_b13 n x0 x1 x2 σ) := by
  intro n
  induction n with
  | zero => intros; rw [fX12_see_b13]; exact hj_none
  | succ n ih =>
    intro x0 x1 x2 σ
    rw [fX12_see_b13]
    refine hj_iload_n 2 dX12_see_13 rfl ?_
    refine hj_bipush (20 : Int32) dX12_see_14 (by decide) ?_
    refine hj_icmp_ge 45 dX12_see_16 (by decide) (fun _ => ?_) (fun _ => ?_)
    · refine hj_loc (lv' := [(0, .ref x0), (1, .int x1)]) [0, 1] rfl ?_
      exact sX12_see_b45 _ _ _
    · refine hj_aload_n 0 dX12_see_19 rfl ?_
      refine hj_getR flX12_131 dX12_see_20 (fun t7 _ => ?_)
      refine hj_bipush (20 : Int32) dX12_see_23 (by decide) ?_
      refine hj_aload_n 0 dX12_see_25 rfl ?_
      refine hj_getI flX12_242 dX12_see_26 (fun t8 _ => ?_)
      refine hj_imul dX12_see_29 ?_
      refine hj_iload_n 2 dX12_see_30 rfl ?_
      refine hj_iadd dX12_see_31 ?_
      refine hj_aload_n 0 dX12_see_32 rfl ?_
      refine hj_getR flX12_107 dX12_see_33 (fun t9 _ => ?_)
      refine hj_iload_n 2 dX12_see_36 rfl ?_
      refine hj_iald dX12_see_37 (fun t10 _ => ?_)
      refine hj_iast dX12_see_38 (fun σ11 _ => ?_)
      refine hj_iinc (lv' := [(0, .ref x0), (1, .int x1), (2, .int (x2 + (1 : Int32)))]) 2 (1 : Int32) dX12_see_39 rfl (by decide) (by decide) [1, 2, 0] rfl ?_
      refine hj_goto 13 dX12_see_42 (by decide) ?_
      refine hj_loc (lv' := [(0, .ref x0), (1, .int x1), (2, .int (x2 + (1 : Int32)))]) [0, 1, 2] rfl ?_
      exact ih _ _ _ _
def fX12_see (a0 : Nat) (a1 : Int32) (σ : Sto) : Option (Int32 × Sto) := ck σ 12 a0 ((gI σ 12 a0 62).bind fun t12 => (if t12 = (6 : Int32) then (some ((-1 : Int32), σ)) else (fX12_see_b13 FU a0 a1 ((0 : Int32)) σ)))
set_option maxHeartbeats 2000000 in
theorem kX12_see (G : GP) (a0 : Nat) (a1 : Int32) (σ : Sto) : Me G mX12_see 1 0 0 jI [.ref a0, .int a1] σ (fX12_see a0 a1 σ) := by
  refine hs_me (lv := [(0, .ref a0), (1, .int a1)]) (plainFor_of_name (by decide +kernel)) (Nat.le_of_ble_eq_true rfl) rfl ?_
  unfold fX12_see
  refine hj_ck ?_
  refine hj_aload_n 0 dX12_see_0 rfl ?_
  refine hj_getI flX12_242 dX12_see_1 (fun t12 _ => ?_)
  refine hj_bipush (6 : Int32) dX12_see_4 (by decide) ?_
  refine hj_icmp_ne 11 dX12_see_6 (by decide) (fun _ => ?_) (fun _ => ?_)
  · refine hj_iconst (0 : Int32) dX12_see_11 (by decide) ?_
    refine hj_istore_n (lv' := [(0, .ref a0), (1, .int a1), (2, .int (0 : Int32))]) dX12_see_12 (by decide) [1, 2, 0] rfl ?_
    refine hj_loc (lv' := [(0, .ref a0), (1, .int a1), (2, .int (0 : Int32))]) [0, 1, 2] rfl ?_
    exact sX12_see_b13 _ _ _ _ _
  · refine hj_iconst (-1 : Int32) dX12_see_9 (by decide) ?_
    exact hj_iret dX12_see_10 rfl rfl (Nat.le_refl _)
theorem cX12_seek {a0 : Nat} {a1 : Int32} {σ : Sto} {r : Int32 × Sto} (h : fX12_see a0 a1 σ = some r) : ∃ fs, hs_o σ 12 a0 = some fs := (ck_of h).1
def fX12_forget (a0 : Nat) (σ : Sto) : Option (Int32 × Sto) := ck σ 12 a0 ((gI σ 12 a0 62).bind fun t1 => ((pV σ 12 a0 62 (.int ((0 : Int32)))).bind fun σ2 => (some (t1, σ2))))
set_option maxHeartbeats 2000000 in
theorem kX12_forget (G : GP) (a0 : Nat) (σ : Sto) : Me G mX12_forget 1 0 0 jI [.ref a0] σ (fX12_forget a0 σ) := by
  refine hs_me (lv := [(0, .ref a0)]) (plainFor_of_name (by decide +kernel)) (Nat.le_of_ble_eq_true rfl) rfl ?_
  unfold fX12_forget
  refine hj_ck ?_
  refine hj_aload_n 0 dX12_forget_0 rfl ?_
  refine hj_getI flX12_242 dX12_forget_1 (fun t1 _ => ?_)
  refine hj_istore_n (lv' := [(0, .ref a0), (1, .int t1)]) dX12_forget_4 (by decide) [1, 0] rfl ?_
  refine hj_aload_n 0 dX12_forget_5 rfl ?_
  refine hj_iconst (0 : Int32) dX12_forget_6 (by decide) ?_
  refine hj_put (fpX12_242 _) (fun _ => rfl) (fun _ => rfl) dX12_forget_7 (fun σ2 _ => ?_)
  refine hj_iload_n 1 dX12_forget_10 rfl ?_
  exact hj_iret dX12_forget_11 rfl rfl (Nat.le_refl _)
theorem cX12_forgetk {a0 : Nat} {σ : Sto} {r : Int32 × Sto} (h : fX12_forget a0 σ = some r) : ∃ fs, hs_o σ 12 a0 = some fs := (ck_of h).1
def fX12_isSo_b50 (K2 : Nat → Int32 → Int32 → Sto → Option (Int32 × Sto)) (x0 : Nat) (x1 : Int32) (x2 : Int32) (y0 : Int32) (σ : Sto) : Option (Int32 × Sto) := ((gR σ 12 x0 64).bind fun t5 => ((aI σ 4 t5 x2).bind fun t6 => (if y0 = t6 then (K2 x0 x1 (x2 + (1 : Int32)) σ) else (some ((0 : Int32), σ)))))
set_option maxHeartbeats 2000000 in
theorem sX12_isSo_b50 {G : GP} {n0 : Nat} {K2 : Nat → Int32 → Int32 → Sto → Option (Int32 × Sto)} (hK2 : ∀ (x0 : Nat) (x1 : Int32) (x2 : Int32) (σ : Sto), Sim G mX12_isSo 6 0 0 n0 jI 0 0 2 [(0, .ref x0), (1, .int x1), (2, .int x2)] [] σ (K2 x0 x1 x2 σ)) : ∀ (x0 : Nat) (x1 : Int32) (x2 : Int32) (y0 : Int32) (σ : Sto), Sim G mX12_isSo 6 0 0 n0 jI 0 0 50 [(0, .ref x0), (1, .int x1), (2, .int x2)] [.int y0] σ (fX12_isSo_b50 K2 x0 x1 x2 y0 σ) := by
  intro x0 x1 x2 y0 σ
  unfold fX12_isSo_b50
  refine hj_aload_n 0 dX12_isSo_50 rfl ?_
  refine hj_getR flX12_134 dX12_isSo_51 (fun t5 _ => ?_)
  refine hj_iload_n 2 dX12_isSo_54 rfl ?_
  refine hj_zald dX12_isSo_55 (fun t6 _ => ?_)
  refine hj_icmp_eq 61 dX12_isSo_56 (by decide) (fun _ => ?_) (fun _ => ?_)
  · refine hj_iinc (lv' := [(0, .ref x0), (1, .int x1), (2, .int (x2 + (1 : Int32)))]) 2 (1 : Int32) dX12_isSo_61 rfl (by decide) (by decide) [1, 2, 0] rfl ?_
    refine hj_goto 2 dX12_isSo_64 (by decide) ?_
    refine hj_loc (lv' := [(0, .ref x0), (1, .int x1), (2, .int (x2 + (1 : Int32)))]) [0, 1, 2] rfl ?_
    exact hK2 _ _ _ _
  · refine hj_iconst (0 : Int32) dX12_isSo_59 (by decide) ?_
    exact hj_zret dX12_isSo_60 rfl (by decide) rfl (Nat.le_refl _)
def fX12_isSo_b38 (K2 : Nat → Int32 → Int32 → Sto → Option (Int32 × Sto)) (x0 : Nat) (x1 : Int32) (x2 : Int32) (σ : Sto) : Option (Int32 × Sto) := (cb (fX12_tipsAt x0 σ) fun r8 σ7 => (if 0 ≤ r8 then (fX12_isSo_b50 K2 x0 x1 x2 ((0 : Int32)) σ7) else (fX12_isSo_b50 K2 x0 x1 x2 ((1 : Int32)) σ7)))
set_option maxHeartbeats 2000000 in
theorem sX12_isSo_b38 {G : GP} {n0 : Nat} {K2 : Nat → Int32 → Int32 → Sto → Option (Int32 × Sto)} (hK2 : ∀ (x0 : Nat) (x1 : Int32) (x2 : Int32) (σ : Sto), Sim G mX12_isSo 6 0 0 n0 jI 0 0 2 [(0, .ref x0), (1, .int x1), (2, .int x2)] [] σ (K2 x0 x1 x2 σ)) : ∀ (x0 : Nat) (x1 : Int32) (x2 : Int32) (σ : Sto), Sim G mX12_isSo 6 0 0 n0 jI 0 0 38 [(0, .ref x0), (1, .int x1), (2, .int x2)] [] σ (fX12_isSo_b38 K2 x0 x1 x2 σ) := by
  intro x0 x1 x2 σ
  unfold fX12_isSo_b38
  refine hj_aload_n 0 dX12_isSo_38 rfl ?_
  refine hj_callV (ci := 12) (M' := mX12_tipsAt) (h' := 5) (As := []) mfX12_tipsAt mvX12_tipsAt ⟨_, _, rfl⟩ mlX12_361 dX12_isSo_39 (kX12_tipsAt G _ _) (fun _ hr => cX12_tipsAtk hr) ⟨Nat.le_of_ble_eq_true rfl, Nat.le_of_ble_eq_true rfl⟩ ⟨Nat.le_refl _, Nat.le_refl _⟩ rfl (Nat.le_of_ble_eq_true rfl) (fun r8 σ7 _ => ?_)
  refine hj_if_ge 49 dX12_isSo_42 (by decide) (fun _ => ?_) (fun _ => ?_)
  · refine hj_iconst (0 : Int32) dX12_isSo_49 (by decide) ?_
    refine hj_loc (lv' := [(0, .ref x0), (1, .int x1), (2, .int x2)]) [0, 1, 2] rfl ?_
    exact sX12_isSo_b50 hK2 _ _ _ _ _
  · refine hj_iconst (1 : Int32) dX12_isSo_45 (by decide) ?_
    refine hj_goto 50 dX12_isSo_46 (by decide) ?_
    refine hj_loc (lv' := [(0, .ref x0), (1, .int x1), (2, .int x2)]) [0, 1, 2] rfl ?_
    exact sX12_isSo_b50 hK2 _ _ _ _ _
def fX12_isSo_b9 (K2 : Nat → Int32 → Int32 → Sto → Option (Int32 × Sto)) : Nat → Nat → Int32 → Int32 → Int32 → Sto → Option (Int32 × Sto)
  | 0, _, _, _, _, _ => none
  | n + 1, x0, x1, x2, x3, σ => (if (20 : Int32) ≤ x3 then (fX12_isSo_b38 K2 x0 x1 x2 σ) else ((gR σ 12 x0 48).bind fun t1 => ((gR σ 12 x0 63).bind fun t2 => ((aI σ 2 t2 ((((((20 : Int32)) * x2)) + x3))).bind fun t3 => ((sI σ 2 t1 x3 t3).bind fun σ4 => (fX12_isSo_b9 K2 n x0 x1 x2 (x3 + (1 : Int32)) σ4))))))
set_option maxHeartbeats 2000000 in
theorem sX12_isSo_b9 {G : GP} {n0 : Nat} {K2 : Nat → Int32 → Int32 → Sto → Option (Int32 × Sto)} (hK2 : ∀ (x0 : Nat) (x1 : Int32) (x2 : Int32) (σ : Sto), Sim G mX12_isSo 6 0 0 n0 jI 0 0 2 [(0, .ref x0), (1, .int x1), (2, .int x2)] [] σ (K2 x0 x1 x2 σ)) : ∀ (n : Nat) (x0 : Nat) (x1 : Int32) (x2 : Int32) (x3 : Int32) (σ : Sto), Sim G mX12_isSo 6 0 0 n0 jI 0 0 9 [(0, .ref x0), (1, .int x1), (2, .int x2), (3, .int x3)] [] σ (fX12_isSo_b9 K2 n x0 x1 x2 x3 σ) := by
  intro n
  induction n with
  | zero => intros; rw [fX12_isSo_b9]; exact hj_none
  | succ n ih =>
    intro x0 x1 x2 x3 σ
    rw [fX12_isSo_b9]
    refine hj_iload_n 3 dX12_isSo_9 rfl ?_
    refine hj_bipush (20 : Int32) dX12_isSo_10 (by decide) ?_
    refine hj_icmp_ge 38 dX12_isSo_12 (by decide) (fun _ => ?_) (fun _ => ?_)
    · refine hj_loc (lv' := [(0, .ref x0), (1, .int x1), (2, .int x2)]) [0, 1, 2] rfl ?_
      exact sX12_isSo_b38 hK2 _ _ _ _
    · refine hj_aload_n 0 dX12_isSo_15 rfl ?_
      refine hj_getR flX12_110 dX12_isSo_16 (fun t1 _ => ?_)
      refine hj_iload_n 3 dX12_isSo_19 rfl ?_
      refine hj_aload_n 0 dX12_isSo_20 rfl ?_
      refine hj_getR flX12_131 dX12_isSo_21 (fun t2 _ => ?_)
      refine hj_bipush (20 : Int32) dX12_isSo_24 (by decide) ?_
      refine hj_iload_n 2 dX12_isSo_26 rfl ?_
      refine hj_imul dX12_isSo_27 ?_
      refine hj_iload_n 3 dX12_isSo_28 rfl ?_
      refine hj_iadd dX12_isSo_29 ?_
      refine hj_iald dX12_isSo_30 (fun t3 _ => ?_)
      refine hj_iast dX12_isSo_31 (fun σ4 _ => ?_)
      refine hj_iinc (lv' := [(0, .ref x0), (1, .int x1), (2, .int x2), (3, .int (x3 + (1 : Int32)))]) 3 (1 : Int32) dX12_isSo_32 rfl (by decide) (by decide) [1, 2, 3, 0] rfl ?_
      refine hj_goto 9 dX12_isSo_35 (by decide) ?_
      refine hj_loc (lv' := [(0, .ref x0), (1, .int x1), (2, .int x2), (3, .int (x3 + (1 : Int32)))]) [0, 1, 2, 3] rfl ?_
      exact ih _ _ _ _ _
def fX12_isSo_b2 : Nat → Nat → Int32 → Int32 → Sto → Option (Int32 × Sto)
  | 0, _, _, _, _ => none
  | n + 1, x0, x1, x2, σ => (if x1 ≤ x2 then (some ((1 : Int32), σ)) else (fX12_isSo_b9 (fX12_isSo_b2 n) FU x0 x1 x2 ((0 : Int32)) σ))
set_option maxHeartbeats 2000000 in
theorem sX12_isSo_b2 {G : GP} {n0 : Nat} : ∀ (n : Nat) (x0 : Nat) (x1 : Int32) (x2 : Int32) (σ : Sto), Sim G mX12_isSo 6 0 0 n0 jI 0 0 2 [(0, .ref x0), (1, .int x1), (2, .int x2)] [] σ (fX12_isSo_b2 n x0 x1 x2 σ) := by
  intro n
  induction n with
  | zero => intros; rw [fX12_isSo_b2]; exact hj_none
  | succ n ih =>
    intro x0 x1 x2 σ
    rw [fX12_isSo_b2]
    refine hj_iload_n 2 dX12_isSo_2 rfl ?_
    refine hj_iload_n 1 dX12_isSo_3 rfl ?_
    refine hj_icmp_ge 67 dX12_isSo_4 (by decide) (fun _ => ?_) (fun _ => ?_)
    · refine hj_iconst (1 : Int32) dX12_isSo_67 (by decide) ?_
      exact hj_zret dX12_isSo_68 rfl (by decide) rfl (Nat.le_refl _)
    · refine hj_iconst (0 : Int32) dX12_isSo_7 (by decide) ?_
      refine hj_istore_n (lv' := [(0, .ref x0), (1, .int x1), (2, .int x2), (3, .int (0 : Int32))]) dX12_isSo_8 (by decide) [1, 2, 3, 0] rfl ?_
      refine hj_loc (lv' := [(0, .ref x0), (1, .int x1), (2, .int x2), (3, .int (0 : Int32))]) [0, 1, 2, 3] rfl ?_
      exact sX12_isSo_b9 ih _ _ _ _ _ _
def fX12_isSo (a0 : Nat) (a1 : Int32) (σ : Sto) : Option (Int32 × Sto) := ck σ 12 a0 (fX12_isSo_b2 FU a0 a1 ((0 : Int32)) σ)
set_option maxHeartbeats 2000000 in
theorem kX12_isSo (G : GP) (a0 : Nat) (a1 : Int32) (σ : Sto) : Me G mX12_isSo 6 0 0 jI [.ref a0, .int a1] σ (fX12_isSo a0 a1 σ) := by
  refine hs_me (lv := [(0, .ref a0), (1, .int a1)]) (plainFor_of_name (by decide +kernel)) (Nat.le_of_ble_eq_true rfl) rfl ?_
  unfold fX12_isSo
  refine hj_ck ?_
  refine hj_iconst (0 : Int32) dX12_isSo_0 (by decide) ?_
  refine hj_istore_n (lv' := [(0, .ref a0), (1, .int a1), (2, .int (0 : Int32))]) dX12_isSo_1 (by decide) [1, 2, 0] rfl ?_
  refine hj_loc (lv' := [(0, .ref a0), (1, .int a1), (2, .int (0 : Int32))]) [0, 1, 2] rfl ?_
  exact sX12_isSo_b2 _ _ _ _ _
theorem cX12_isSok {a0 : Nat} {a1 : Int32} {σ : Sto} {r : Int32 × Sto} (h : fX12_isSo a0 a1 σ = some r) : ∃ fs, hs_o σ 12 a0 = some fs := (ck_of h).1
def fX12_fillsFits_b200 (K39 : Nat → Int32 → Int32 → Int32 → Int32 → Int32 → Sto → Option (Int32 × Sto)) (x0 : Nat) (x1 : Int32) (x2 : Int32) (x3 : Int32) (x4 : Int32) (x5 : Int32) (σ : Sto) : Option (Int32 × Sto) := (K39 x0 x1 x2 x3 x4 (x5 + (1 : Int32)) σ)
set_option maxHeartbeats 2000000 in
theorem sX12_fillsFits_b200 {G : GP} {n0 : Nat} {K39 : Nat → Int32 → Int32 → Int32 → Int32 → Int32 → Sto → Option (Int32 × Sto)} (hK39 : ∀ (x0 : Nat) (x1 : Int32) (x2 : Int32) (x3 : Int32) (x4 : Int32) (x5 : Int32) (σ : Sto), Sim G mX12_fillsFits 7 0 0 n0 jI 0 0 39 [(0, .ref x0), (1, .int x1), (2, .int x2), (3, .int x3), (4, .int x4), (5, .int x5)] [] σ (K39 x0 x1 x2 x3 x4 x5 σ)) : ∀ (x0 : Nat) (x1 : Int32) (x2 : Int32) (x3 : Int32) (x4 : Int32) (x5 : Int32) (σ : Sto), Sim G mX12_fillsFits 7 0 0 n0 jI 0 0 200 [(0, .ref x0), (1, .int x1), (2, .int x2), (3, .int x3), (4, .int x4), (5, .int x5)] [] σ (fX12_fillsFits_b200 K39 x0 x1 x2 x3 x4 x5 σ) := by
  intro x0 x1 x2 x3 x4 x5 σ
  unfold fX12_fillsFits_b200
  refine hj_iinc (lv' := [(0, .ref x0), (1, .int x1), (2, .int x2), (3, .int x3), (4, .int x4), (5, .int (x5 + (1 : Int32)))]) 5 (1 : Int32) dX12_fillsFits_200 rfl (by decide) (by decide) [1, 2, 3, 4, 5, 0] rfl ?_
  refine hj_goto 39 dX12_fillsFits_203 (by decide) ?_
  refine hj_loc (lv' := [(0, .ref x0), (1, .int x1), (2, .int x2), (3, .int x3), (4, .int x4), (5, .int (x5 + (1 : Int32)))]) [0, 1, 2, 3, 4, 5] rfl ?_
  exact hK39 _ _ _ _ _ _ _
def fX12_fillsFits_b197 (K39 : Nat → Int32 → Int32 → Int32 → Int32 → Int32 → Sto → Option (Int32 × Sto)) (x0 : Nat) (x1 : Int32) (x2 : Int32) (x3 : Int32) (x4 : Int32) (x5 : Int32) (σ : Sto) : Option (Int32 × Sto) := (fX12_fillsFits_b200 K39 x0 x1 x2 x3 (x4 + (1 : Int32)) x5 σ)
set_option maxHeartbeats 2000000 in
theorem sX12_fillsFits_b197 {G : GP} {n0 : Nat} {K39 : Nat → Int32 → Int32 → Int32 → Int32 → Int32 → Sto → Option (Int32 × Sto)} (hK39 : ∀ (x0 : Nat) (x1 : Int32) (x2 : Int32) (x3 : Int32) (x4 : Int32) (x5 : Int32) (σ : Sto), Sim G mX12_fillsFits 7 0 0 n0 jI 0 0 39 [(0, .ref x0), (1, .int x1), (2, .int x2), (3, .int x3), (4, .int x4), (5, .int x5)] [] σ (K39 x0 x1 x2 x3 x4 x5 σ)) : ∀ (x0 : Nat) (x1 : Int32) (x2 : Int32) (x3 : Int32) (x4 : Int32) (x5 : Int32) (σ : Sto), Sim G mX12_fillsFits 7 0 0 n0 jI 0 0 197 [(0, .ref x0), (1, .int x1), (2, .int x2), (3, .int x3), (4, .int x4), (5, .int x5)] [] σ (fX12_fillsFits_b197 K39 x0 x1 x2 x3 x4 x5 σ) := by
  intro x0 x1 x2 x3 x4 x5 σ
  unfold fX12_fillsFits_b197
  refine hj_iinc (lv' := [(0, .ref x0), (1, .int x1), (2, .int x2), (3, .int x3), (4, .int (x4 + (1 : Int32))), (5, .int x5)]) 4 (1 : Int32) dX12_fillsFits_197 rfl (by decide) (by decide) [1, 2, 3, 4, 0, 5] rfl ?_
  refine hj_loc (lv' := [(0, .ref x0), (1, .int x1), (2, .int x2), (3, .int x3), (4, .int (x4 + (1 : Int32))), (5, .int x5)]) [0, 1, 2, 3, 4, 5] rfl ?_
  exact sX12_fillsFits_b200 hK39 _ _ _ _ _ _ _
def fX12_fillsFits_b191 (K39 : Nat → Int32 → Int32 → Int32 → Int32 → Int32 → Sto → Option (Int32 × Sto)) (K105 : Nat → Int32 → Int32 → Int32 → Int32 → Int32 → Int32 → Sto → Option (Int32 × Sto)) (x0 : Nat) (x1 : Int32) (x2 : Int32) (x3 : Int32) (x4 : Int32) (x5 : Int32) (x7 : Int32) (σ : Sto) : Option (Int32 × Sto) := (K105 x0 x1 x2 x3 x4 x5 (x7 + (1 : Int32)) σ)
set_option maxHeartbeats 2000000 in
theorem sX12_fillsFits_b191 {G : GP} {n0 : Nat} {K39 : Nat → Int32 → Int32 → Int32 → Int32 → Int32 → Sto → Option (Int32 × Sto)} (hK39 : ∀ (x0 : Nat) (x1 : Int32) (x2 : Int32) (x3 : Int32) (x4 : Int32) (x5 : Int32) (σ : Sto), Sim G mX12_fillsFits 7 0 0 n0 jI 0 0 39 [(0, .ref x0), (1, .int x1), (2, .int x2), (3, .int x3), (4, .int x4), (5, .int x5)] [] σ (K39 x0 x1 x2 x3 x4 x5 σ)) {K105 : Nat → Int32 → Int32 → Int32 → Int32 → Int32 → Int32 → Sto → Option (Int32 × Sto)} (hK105 : ∀ (x0 : Nat) (x1 : Int32) (x2 : Int32) (x3 : Int32) (x4 : Int32) (x5 : Int32) (x7 : Int32) (σ : Sto), Sim G mX12_fillsFits 7 0 0 n0 jI 0 0 105 [(0, .ref x0), (1, .int x1), (2, .int x2), (3, .int x3), (4, .int x4), (5, .int x5), (7, .int x7)] [] σ (K105 x0 x1 x2 x3 x4 x5 x7 σ)) : ∀ (x0 : Nat) (x1 : Int32) (x2 : Int32) (x3 : Int32) (x4 : Int32) (x5 : Int32) (x7 : Int32) (σ : Sto), Sim G mX12_fillsFits 7 0 0 n0 jI 0 0 191 [(0, .ref x0), (1, .int x1), (2, .int x2), (3, .int x3), (4, .int x4), (5, .int x5), (7, .int x7)] [] σ (fX12_fillsFits_b191 K39 K105 x0 x1 x2 x3 x4 x5 x7 σ) := by
  intro x0 x1 x2 x3 x4 x5 x7 σ
  unfold fX12_fillsFits_b191
  refine hj_iinc (lv' := [(0, .ref x0), (1, .int x1), (2, .int x2), (3, .int x3), (4, .int x4), (5, .int x5), (7, .int (x7 + (1 : Int32)))]) 6 (1 : Int32) dX12_fillsFits_191 rfl (by decide) (by decide) [1, 2, 3, 4, 5, 6, 0] rfl ?_
  refine hj_goto 105 dX12_fillsFits_194 (by decide) ?_
  refine hj_loc (lv' := [(0, .ref x0), (1, .int x1), (2, .int x2), (3, .int x3), (4, .int x4), (5, .int x5), (7, .int (x7 + (1 : Int32)))]) [0, 1, 2, 3, 4, 5, 6] rfl ?_
  exact hK105 _ _ _ _ _ _ _ _
def fX12_fillsFits_b177 (K39 : Nat → Int32 → Int32 → Int32 → Int32 → Int32 → Sto → Option (Int32 × Sto)) (K105 : Nat → Int32 → Int32 → Int32 → Int32 → Int32 → Int32 → Sto → Option (Int32 × Sto)) (x0 : Nat) (x1 : Int32) (x2 : Int32) (x3 : Int32) (x4 : Int32) (x5 : Int32) (x7 : Int32) (σ : Sto) : Option (Int32 × Sto) := ((gR σ 12 x0 66).bind fun t18 => ((gR σ 12 x0 52).bind fun t19 => ((aI σ 2 t19 x7).bind fun t20 => ((sI σ 2 t18 x7 t20).bind fun σ21 => (fX12_fillsFits_b191 K39 K105 x0 x1 x2 x3 x4 x5 x7 σ21)))))
set_option maxHeartbeats 2000000 in
theorem sX12_fillsFits_b177 {G : GP} {n0 : Nat} {K39 : Nat → Int32 → Int32 → Int32 → Int32 → Int32 → Sto → Option (Int32 × Sto)} (hK39 : ∀ (x0 : Nat) (x1 : Int32) (x2 : Int32) (x3 : Int32) (x4 : Int32) (x5 : Int32) (σ : Sto), Sim G mX12_fillsFits 7 0 0 n0 jI 0 0 39 [(0, .ref x0), (1, .int x1), (2, .int x2), (3, .int x3), (4, .int x4), (5, .int x5)] [] σ (K39 x0 x1 x2 x3 x4 x5 σ)) {K105 : Nat → Int32 → Int32 → Int32 → Int32 → Int32 → Int32 → Sto → Option (Int32 × Sto)} (hK105 : ∀ (x0 : Nat) (x1 : Int32) (x2 : Int32) (x3 : Int32) (x4 : Int32) (x5 : Int32) (x7 : Int32) (σ : Sto), Sim G mX12_fillsFits 7 0 0 n0 jI 0 0 105 [(0, .ref x0), (1, .int x1), (2, .int x2), (3, .int x3), (4, .int x4), (5, .int x5), (7, .int x7)] [] σ (K105 x0 x1 x2 x3 x4 x5 x7 σ)) : ∀ (x0 : Nat) (x1 : Int32) (x2 : Int32) (x3 : Int32) (x4 : Int32) (x5 : Int32) (x7 : Int32) (σ : Sto), Sim G mX12_fillsFits 7 0 0 n0 jI 0 0 177 [(0, .ref x0), (1, .int x1), (2, .int x2), (3, .int x3), (4, .int x4), (5, .int x5), (7, .int x7)] [] σ (fX12_fillsFits_b177 K39 K105 x0 x1 x2 x3 x4 x5 x7 σ) := by
  intro x0 x1 x2 x3 x4 x5 x7 σ
  unfold fX12_fillsFits_b177
  refine hj_aload_n 0 dX12_fillsFits_177 rfl ?_
  refine hj_getR flX12_140 dX12_fillsFits_178 (fun t18 _ => ?_)
  refine hj_iload 6 dX12_fillsFits_181 rfl ?_
  refine hj_aload_n 0 dX12_fillsFits_183 rfl ?_
  refine hj_getR flX12_113 dX12_fillsFits_184 (fun t19 _ => ?_)
  refine hj_iload 6 dX12_fillsFits_187 rfl ?_
  refine hj_iald dX12_fillsFits_189 (fun t20 _ => ?_)
  refine hj_iast dX12_fillsFits_190 (fun σ21 _ => ?_)
  refine hj_loc (lv' := [(0, .ref x0), (1, .int x1), (2, .int x2), (3, .int x3), (4, .int x4), (5, .int x5), (7, .int x7)]) [0, 1, 2, 3, 4, 5, 6] rfl ?_
  exact sX12_fillsFits_b191 hK39 hK105 _ _ _ _ _ _ _ _
def fX12_fillsFits_b155 (K39 : Nat → Int32 → Int32 → Int32 → Int32 → Int32 → Sto → Option (Int32 × Sto)) (K105 : Nat → Int32 → Int32 → Int32 → Int32 → Int32 → Int32 → Sto → Option (Int32 × Sto)) (x0 : Nat) (x1 : Int32) (x2 : Int32) (x3 : Int32) (x4 : Int32) (x5 : Int32) (x7 : Int32) (σ : Sto) : Option (Int32 × Sto) := (if x4 = 0 then (fX12_fillsFits_b177 K39 K105 x0 x1 x2 x3 x4 x5 x7 σ) else ((gR σ 12 x0 52).bind fun t28 => ((aI σ 2 t28 x7).bind fun t29 => ((gR σ 12 x0 66).bind fun t30 => ((aI σ 2 t30 x7).bind fun t31 => (if t29 ≤ t31 then (fX12_fillsFits_b191 K39 K105 x0 x1 x2 x3 x4 x5 x7 σ) else (fX12_fillsFits_b177 K39 K105 x0 x1 x2 x3 x4 x5 x7 σ)))))))
set_option maxHeartbeats 2000000 in
theorem sX12_fillsFits_b155 {G : GP} {n0 : Nat} {K39 : Nat → Int32 → Int32 → Int32 → Int32 → Int32 → Sto → Option (Int32 × Sto)} (hK39 : ∀ (x0 : Nat) (x1 : Int32) (x2 : Int32) (x3 : Int32) (x4 : Int32) (x5 : Int32) (σ : Sto), Sim G mX12_fillsFits 7 0 0 n0 jI 0 0 39 [(0, .ref x0), (1, .int x1), (2, .int x2), (3, .int x3), (4, .int x4), (5, .int x5)] [] σ (K39 x0 x1 x2 x3 x4 x5 σ)) {K105 : Nat → Int32 → Int32 → Int32 → Int32 → Int32 → Int32 → Sto → Option (Int32 × Sto)} (hK105 : ∀ (x0 : Nat) (x1 : Int32) (x2 : Int32) (x3 : Int32) (x4 : Int32) (x5 : Int32) (x7 : Int32) (σ : Sto), Sim G mX12_fillsFits 7 0 0 n0 jI 0 0 105 [(0, .ref x0), (1, .int x1), (2, .int x2), (3, .int x3), (4, .int x4), (5, .int x5), (7, .int x7)] [] σ (K105 x0 x1 x2 x3 x4 x5 x7 σ)) : ∀ (x0 : Nat) (x1 : Int32) (x2 : Int32) (x3 : Int32) (x4 : Int32) (x5 : Int32) (x7 : Int32) (σ : Sto), Sim G mX12_fillsFits 7 0 0 n0 jI 0 0 155 [(0, .ref x0), (1, .int x1), (2, .int x2), (3, .int x3), (4, .int x4), (5, .int x5), (7, .int x7)] [] σ (fX12_fillsFits_b155 K39 K105 x0 x1 x2 x3 x4 x5 x7 σ) := by
  intro x0 x1 x2 x3 x4 x5 x7 σ
  unfold fX12_fillsFits_b155
  refine hj_iload 4 dX12_fillsFits_155 rfl ?_
  refine hj_if_eq 177 dX12_fillsFits_157 (by decide) (fun _ => ?_) (fun _ => ?_)
  · refine hj_loc (lv' := [(0, .ref x0), (1, .int x1), (2, .int x2), (3, .int x3), (4, .int x4), (5, .int x5), (7, .int x7)]) [0, 1, 2, 3, 4, 5, 6] rfl ?_
    exact sX12_fillsFits_b177 hK39 hK105 _ _ _ _ _ _ _ _
  · refine hj_aload_n 0 dX12_fillsFits_160 rfl ?_
    refine hj_getR flX12_113 dX12_fillsFits_161 (fun t28 _ => ?_)
    refine hj_iload 6 dX12_fillsFits_164 rfl ?_
    refine hj_iald dX12_fillsFits_166 (fun t29 _ => ?_)
    refine hj_aload_n 0 dX12_fillsFits_167 rfl ?_
    refine hj_getR flX12_140 dX12_fillsFits_168 (fun t30 _ => ?_)
    refine hj_iload 6 dX12_fillsFits_171 rfl ?_
    refine hj_iald dX12_fillsFits_173 (fun t31 _ => ?_)
    refine hj_icmp_le 191 dX12_fillsFits_174 (by decide) (fun _ => ?_) (fun _ => ?_)
    · refine hj_loc (lv' := [(0, .ref x0), (1, .int x1), (2, .int x2), (3, .int x3), (4, .int x4), (5, .int x5), (7, .int x7)]) [0, 1, 2, 3, 4, 5, 6] rfl ?_
      exact sX12_fillsFits_b191 hK39 hK105 _ _ _ _ _ _ _ _
    · refine hj_loc (lv' := [(0, .ref x0), (1, .int x1), (2, .int x2), (3, .int x3), (4, .int x4), (5, .int x5), (7, .int x7)]) [0, 1, 2, 3, 4, 5, 6] rfl ?_
      exact sX12_fillsFits_b177 hK39 hK105 _ _ _ _ _ _ _ _
def fX12_fillsFits_b141 (K39 : Nat → Int32 → Int32 → Int32 → Int32 → Int32 → Sto → Option (Int32 × Sto)) (K105 : Nat → Int32 → Int32 → Int32 → Int32 → Int32 → Int32 → Sto → Option (Int32 × Sto)) (x0 : Nat) (x1 : Int32) (x2 : Int32) (x3 : Int32) (x4 : Int32) (x5 : Int32) (x7 : Int32) (σ : Sto) : Option (Int32 × Sto) := ((gR σ 12 x0 65).bind fun t14 => ((gR σ 12 x0 52).bind fun t15 => ((aI σ 2 t15 x7).bind fun t16 => ((sI σ 2 t14 x7 t16).bind fun σ17 => (fX12_fillsFits_b155 K39 K105 x0 x1 x2 x3 x4 x5 x7 σ17)))))
set_option maxHeartbeats 2000000 in
theorem sX12_fillsFits_b141 {G : GP} {n0 : Nat} {K39 : Nat → Int32 → Int32 → Int32 → Int32 → Int32 → Sto → Option (Int32 × Sto)} (hK39 : ∀ (x0 : Nat) (x1 : Int32) (x2 : Int32) (x3 : Int32) (x4 : Int32) (x5 : Int32) (σ : Sto), Sim G mX12_fillsFits 7 0 0 n0 jI 0 0 39 [(0, .ref x0), (1, .int x1), (2, .int x2), (3, .int x3), (4, .int x4), (5, .int x5)] [] σ (K39 x0 x1 x2 x3 x4 x5 σ)) {K105 : Nat → Int32 → Int32 → Int32 → Int32 → Int32 → Int32 → Sto → Option (Int32 × Sto)} (hK105 : ∀ (x0 : Nat) (x1 : Int32) (x2 : Int32) (x3 : Int32) (x4 : Int32) (x5 : Int32) (x7 : Int32) (σ : Sto), Sim G mX12_fillsFits 7 0 0 n0 jI 0 0 105 [(0, .ref x0), (1, .int x1), (2, .int x2), (3, .int x3), (4, .int x4), (5, .int x5), (7, .int x7)] [] σ (K105 x0 x1 x2 x3 x4 x5 x7 σ)) : ∀ (x0 : Nat) (x1 : Int32) (x2 : Int32) (x3 : Int32) (x4 : Int32) (x5 : Int32) (x7 : Int32) (σ : Sto), Sim G mX12_fillsFits 7 0 0 n0 jI 0 0 141 [(0, .ref x0), (1, .int x1), (2, .int x2), (3, .int x3), (4, .int x4), (5, .int x5), (7, .int x7)] [] σ (fX12_fillsFits_b141 K39 K105 x0 x1 x2 x3 x4 x5 x7 σ) := by
  intro x0 x1 x2 x3 x4 x5 x7 σ
  unfold fX12_fillsFits_b141
  refine hj_aload_n 0 dX12_fillsFits_141 rfl ?_
  refine hj_getR flX12_137 dX12_fillsFits_142 (fun t14 _ => ?_)
  refine hj_iload 6 dX12_fillsFits_145 rfl ?_
  refine hj_aload_n 0 dX12_fillsFits_147 rfl ?_
  refine hj_getR flX12_113 dX12_fillsFits_148 (fun t15 _ => ?_)
  refine hj_iload 6 dX12_fillsFits_151 rfl ?_
  refine hj_iald dX12_fillsFits_153 (fun t16 _ => ?_)
  refine hj_iast dX12_fillsFits_154 (fun σ17 _ => ?_)
  refine hj_loc (lv' := [(0, .ref x0), (1, .int x1), (2, .int x2), (3, .int x3), (4, .int x4), (5, .int x5), (7, .int x7)]) [0, 1, 2, 3, 4, 5, 6] rfl ?_
  exact sX12_fillsFits_b155 hK39 hK105 _ _ _ _ _ _ _ _
def fX12_fillsFits_b105 (K39 : Nat → Int32 → Int32 → Int32 → Int32 → Int32 → Sto → Option (Int32 × Sto)) : Nat → Nat → Int32 → Int32 → Int32 → Int32 → Int32 → Int32 → Sto → Option (Int32 × Sto)
  | 0, _, _, _, _, _, _, _, _ => none
  | n + 1, x0, x1, x2, x3, x4, x5, x7, σ => ((gR σ 12 x0 22).bind fun t5 => ((gI σ 12 x0 18).bind fun t6 => ((aI σ 2 t5 t6).bind fun t7 => (if t7 ≤ x7 then (fX12_fillsFits_b197 K39 x0 x1 x2 x3 x4 x5 σ) else (if x4 = 0 then (fX12_fillsFits_b141 K39 (fX12_fillsFits_b105 K39 n) x0 x1 x2 x3 x4 x5 x7 σ) else ((gR σ 12 x0 52).bind fun t8 => ((aI σ 2 t8 x7).bind fun t9 => ((gR σ 12 x0 65).bind fun t10 => ((aI σ 2 t10 x7).bind fun t11 => (if t11 ≤ t9 then (fX12_fillsFits_b155 K39 (fX12_fillsFits_b105 K39 n) x0 x1 x2 x3 x4 x5 x7 σ) else (fX12_fillsFits_b141 K39 (fX12_fillsFits_b105 K39 n) x0 x1 x2 x3 x4 x5 x7 σ)))))))))))
set_option maxHeartbeats 2000000 in
theorem sX12_fillsFits_b105 {G : GP} {n0 : Nat} {K39 : Nat → Int32 → Int32 → Int32 → Int32 → Int32 → Sto → Option (Int32 × Sto)} (hK39 : ∀ (x0 : Nat) (x1 : Int32) (x2 : Int32) (x3 : Int32) (x4 : Int32) (x5 : Int32) (σ : Sto), Sim G mX12_fillsFits 7 0 0 n0 jI 0 0 39 [(0, .ref x0), (1, .int x1), (2, .int x2), (3, .int x3), (4, .int x4), (5, .int x5)] [] σ (K39 x0 x1 x2 x3 x4 x5 σ)) : ∀ (n : Nat) (x0 : Nat) (x1 : Int32) (x2 : Int32) (x3 : Int32) (x4 : Int32) (x5 : Int32) (x7 : Int32) (σ : Sto), Sim G mX12_fillsFits 7 0 0 n0 jI 0 0 105 [(0, .ref x0), (1, .int x1), (2, .int x2), (3, .int x3), (4, .int x4), (5, .int x5), (7, .int x7)] [] σ (fX12_fillsFits_b105 K39 n x0 x1 x2 x3 x4 x5 x7 σ) := by
  intro n
  induction n with
  | zero => intros; rw [fX12_fillsFits_b105]; exact hj_none
  | succ n ih =>
    intro x0 x1 x2 x3 x4 x5 x7 σ
    rw [fX12_fillsFits_b105]
    refine hj_iload 6 dX12_fillsFits_105 rfl ?_
    refine hj_aload_n 0 dX12_fillsFits_107 rfl ?_
    refine hj_getR flX12_43 dX12_fillsFits_108 (fun t5 _ => ?_)
    refine hj_aload_n 0 dX12_fillsFits_111 rfl ?_
    refine hj_getI flX12_221 dX12_fillsFits_112 (fun t6 _ => ?_)
    refine hj_iald dX12_fillsFits_115 (fun t7 _ => ?_)
    refine hj_icmp_ge 197 dX12_fillsFits_116 (by decide) (fun _ => ?_) (fun _ => ?_)
    · refine hj_loc (lv' := [(0, .ref x0), (1, .int x1), (2, .int x2), (3, .int x3), (4, .int x4), (5, .int x5)]) [0, 1, 2, 3, 4, 5] rfl ?_
      exact sX12_fillsFits_b197 hK39 _ _ _ _ _ _ _
    · refine hj_iload 4 dX12_fillsFits_119 rfl ?_
      refine hj_if_eq 141 dX12_fillsFits_121 (by decide) (fun _ => ?_) (fun _ => ?_)
      · refine hj_loc (lv' := [(0, .ref x0), (1, .int x1), (2, .int x2), (3, .int x3), (4, .int x4), (5, .int x5), (7, .int x7)]) [0, 1, 2, 3, 4, 5, 6] rfl ?_
        exact sX12_fillsFits_b141 hK39 ih _ _ _ _ _ _ _ _
      · refine hj_aload_n 0 dX12_fillsFits_124 rfl ?_
        refine hj_getR flX12_113 dX12_fillsFits_125 (fun t8 _ => ?_)
        refine hj_iload 6 dX12_fillsFits_128 rfl ?_
        refine hj_iald dX12_fillsFits_130 (fun t9 _ => ?_)
        refine hj_aload_n 0 dX12_fillsFits_131 rfl ?_
        refine hj_getR flX12_137 dX12_fillsFits_132 (fun t10 _ => ?_)
        refine hj_iload 6 dX12_fillsFits_135 rfl ?_
        refine hj_iald dX12_fillsFits_137 (fun t11 _ => ?_)
        refine hj_icmp_ge 155 dX12_fillsFits_138 (by decide) (fun _ => ?_) (fun _ => ?_)
        · refine hj_loc (lv' := [(0, .ref x0), (1, .int x1), (2, .int x2), (3, .int x3), (4, .int x4), (5, .int x5), (7, .int x7)]) [0, 1, 2, 3, 4, 5, 6] rfl ?_
          exact sX12_fillsFits_b155 hK39 ih _ _ _ _ _ _ _ _
        · refine hj_loc (lv' := [(0, .ref x0), (1, .int x1), (2, .int x2), (3, .int x3), (4, .int x4), (5, .int x5), (7, .int x7)]) [0, 1, 2, 3, 4, 5, 6] rfl ?_
          exact sX12_fillsFits_b141 hK39 ih _ _ _ _ _ _ _ _
def fX12_fillsFits_b91 (K39 : Nat → Int32 → Int32 → Int32 → Int32 → Int32 → Sto → Option (Int32 × Sto)) (x0 : Nat) (x1 : Int32) (x2 : Int32) (x3 : Int32) (x4 : Int32) (x5 : Int32) (σ : Sto) : Option (Int32 × Sto) := (cb (fX12_isSo x0 x2 σ) fun r13 σ12 => (if r13 = 0 then (fX12_fillsFits_b200 K39 x0 x1 x2 x3 x4 x5 σ12) else (fX12_fillsFits_b105 K39 FU x0 x1 x2 x3 x4 x5 ((0 : Int32)) σ12)))
set_option maxHeartbeats 2000000 in
theorem sX12_fillsFits_b91 {G : GP} {n0 : Nat} {K39 : Nat → Int32 → Int32 → Int32 → Int32 → Int32 → Sto → Option (Int32 × Sto)} (hK39 : ∀ (x0 : Nat) (x1 : Int32) (x2 : Int32) (x3 : Int32) (x4 : Int32) (x5 : Int32) (σ : Sto), Sim G mX12_fillsFits 7 0 0 n0 jI 0 0 39 [(0, .ref x0), (1, .int x1), (2, .int x2), (3, .int x3), (4, .int x4), (5, .int x5)] [] σ (K39 x0 x1 x2 x3 x4 x5 σ)) : ∀ (x0 : Nat) (x1 : Int32) (x2 : Int32) (x3 : Int32) (x4 : Int32) (x5 : Int32) (σ : Sto), Sim G mX12_fillsFits 7 0 0 n0 jI 0 0 91 [(0, .ref x0), (1, .int x1), (2, .int x2), (3, .int x3), (4, .int x4), (5, .int x5)] [] σ (fX12_fillsFits_b91 K39 x0 x1 x2 x3 x4 x5 σ) := by
  intro x0 x1 x2 x3 x4 x5 σ
  unfold fX12_fillsFits_b91
  refine hj_aload_n 0 dX12_fillsFits_91 rfl ?_
  refine hj_iload_n 2 dX12_fillsFits_92 rfl ?_
  refine hj_callV (ci := 12) (M' := mX12_isSo) (h' := 6) (As := [.int x2]) mfX12_isSo mvX12_isSo ⟨_, _, rfl⟩ mlX12_417 dX12_fillsFits_93 (kX12_isSo G _ _ _) (fun _ hr => cX12_isSok hr) ⟨Nat.le_of_ble_eq_true rfl, Nat.le_of_ble_eq_true rfl⟩ ⟨Nat.le_refl _, Nat.le_refl _⟩ rfl (Nat.le_of_ble_eq_true rfl) (fun r13 σ12 _ => ?_)
  refine hj_if_ne 102 dX12_fillsFits_96 (by decide) (fun _ => ?_) (fun _ => ?_)
  · refine hj_iconst (0 : Int32) dX12_fillsFits_102 (by decide) ?_
    refine hj_istore (lv' := [(0, .ref x0), (1, .int x1), (2, .int x2), (3, .int x3), (4, .int x4), (5, .int x5), (7, .int (0 : Int32))]) dX12_fillsFits_103 (by decide) [1, 2, 3, 4, 5, 6, 0] rfl ?_
    refine hj_loc (lv' := [(0, .ref x0), (1, .int x1), (2, .int x2), (3, .int x3), (4, .int x4), (5, .int x5), (7, .int (0 : Int32))]) [0, 1, 2, 3, 4, 5, 6] rfl ?_
    exact sX12_fillsFits_b105 hK39 _ _ _ _ _ _ _ _ _
  · refine hj_goto 200 dX12_fillsFits_99 (by decide) ?_
    refine hj_loc (lv' := [(0, .ref x0), (1, .int x1), (2, .int x2), (3, .int x3), (4, .int x4), (5, .int x5)]) [0, 1, 2, 3, 4, 5] rfl ?_
    exact sX12_fillsFits_b200 hK39 _ _ _ _ _ _ _
def fX12_fillsFits_b52 (K39 : Nat → Int32 → Int32 → Int32 → Int32 → Int32 → Sto → Option (Int32 × Sto)) : Nat → Nat → Int32 → Int32 → Int32 → Int32 → Int32 → Int32 → Int32 → Sto → Option (Int32 × Sto)
  | 0, _, _, _, _, _, _, _, _, _ => none
  | n + 1, x0, x1, x2, x3, x4, x5, x6, x7, σ => ((gR σ 12 x0 22).bind fun t22 => ((gI σ 12 x0 18).bind fun t23 => ((aI σ 2 t22 t23).bind fun t24 => (if t24 ≤ x7 then (fX12_fillsFits_b91 K39 x0 x1 x2 x3 x4 x5 σ) else ((gR σ 12 x0 52).bind fun t25 => (if x1 = 0 then none else ((sI σ 2 t25 x7 ((((1 : Int32)) + ((hs_rem x6 x1))))).bind fun σ26 => (if x1 = 0 then none else (lt ((x6 / x1)) fun v27 => (fX12_fillsFits_b52 K39 n x0 x1 x2 x3 x4 x5 v27 (x7 + (1 : Int32)) σ26))))))))))
set_option maxHeartbeats 2000000 in
theorem sX12_fillsFits_b52 {G : GP} {n0 : Nat} {K39 : Nat → Int32 → Int32 → Int32 → Int32 → Int32 → Sto → Option (Int32 × Sto)} (hK39 : ∀ (x0 : Nat) (x1 : Int32) (x2 : Int32) (x3 : Int32) (x4 : Int32) (x5 : Int32) (σ : Sto), Sim G mX12_fillsFits 7 0 0 n0 jI 0 0 39 [(0, .ref x0), (1, .int x1), (2, .int x2), (3, .int x3), (4, .int x4), (5, .int x5)] [] σ (K39 x0 x1 x2 x3 x4 x5 σ)) : ∀ (n : Nat) (x0 : Nat) (x1 : Int32) (x2 : Int32) (x3 : Int32) (x4 : Int32) (x5 : Int32) (x6 : Int32) (x7 : Int32) (σ : Sto), Sim G mX12_fillsFits 7 0 0 n0 jI 0 0 52 [(0, .ref x0), (1, .int x1), (2, .int x2), (3, .int x3), (4, .int x4), (5, .int x5), (6, .int x6), (7, .int x7)] [] σ (fX12_fillsFits_b52 K39 n x0 x1 x2 x3 x4 x5 x6 x7 σ) := by
  intro n
  induction n with
  | zero => intros; rw [fX12_fillsFits_b52]; exact hj_none
  | succ n ih =>
    intro x0 x1 x2 x3 x4 x5 x6 x7 σ
    rw [fX12_fillsFits_b52]
    refine hj_iload 7 dX12_fillsFits_52 rfl ?_
    refine hj_aload_n 0 dX12_fillsFits_54 rfl ?_
    refine hj_getR flX12_43 dX12_fillsFits_55 (fun t22 _ => ?_)
    refine hj_aload_n 0 dX12_fillsFits_58 rfl ?_
    refine hj_getI flX12_221 dX12_fillsFits_59 (fun t23 _ => ?_)
    refine hj_iald dX12_fillsFits_62 (fun t24 _ => ?_)
    refine hj_icmp_ge 91 dX12_fillsFits_63 (by decide) (fun _ => ?_) (fun _ => ?_)
    · refine hj_loc (lv' := [(0, .ref x0), (1, .int x1), (2, .int x2), (3, .int x3), (4, .int x4), (5, .int x5)]) [0, 1, 2, 3, 4, 5] rfl ?_
      exact sX12_fillsFits_b91 hK39 _ _ _ _ _ _ _
    · refine hj_aload_n 0 dX12_fillsFits_66 rfl ?_
      refine hj_getR flX12_113 dX12_fillsFits_67 (fun t25 _ => ?_)
      refine hj_iload 7 dX12_fillsFits_70 rfl ?_
      refine hj_iconst (1 : Int32) dX12_fillsFits_72 (by decide) ?_
      refine hj_iload 6 dX12_fillsFits_73 rfl ?_
      refine hj_iload_n 1 dX12_fillsFits_75 rfl ?_
      refine hj_irem dX12_fillsFits_76 (fun _ => ?_)
      refine hj_iadd dX12_fillsFits_77 ?_
      refine hj_iast dX12_fillsFits_78 (fun σ26 _ => ?_)
      refine hj_iload 6 dX12_fillsFits_79 rfl ?_
      refine hj_iload_n 1 dX12_fillsFits_81 rfl ?_
      refine hj_idiv dX12_fillsFits_82 (fun _ => ?_)
      refine hj_ltI (fun v27 _ => ?_)
      refine hj_istore (lv' := [(0, .ref x0), (1, .int x1), (2, .int x2), (3, .int x3), (4, .int x4), (5, .int x5), (6, .int v27), (7, .int x7)]) dX12_fillsFits_83 (by decide) [1, 2, 3, 4, 5, 6, 0, 7] rfl ?_
      refine hj_iinc (lv' := [(0, .ref x0), (1, .int x1), (2, .int x2), (3, .int x3), (4, .int x4), (5, .int x5), (6, .int v27), (7, .int (x7 + (1 : Int32)))]) 7 (1 : Int32) dX12_fillsFits_85 rfl (by decide) (by decide) [1, 2, 3, 4, 5, 6, 7, 0] rfl ?_
      refine hj_goto 52 dX12_fillsFits_88 (by decide) ?_
      refine hj_loc (lv' := [(0, .ref x0), (1, .int x1), (2, .int x2), (3, .int x3), (4, .int x4), (5, .int x5), (6, .int v27), (7, .int (x7 + (1 : Int32)))]) [0, 1, 2, 3, 4, 5, 6, 7] rfl ?_
      exact ih _ _ _ _ _ _ _ _ _
def fX12_fillsFits_b39 : Nat → Nat → Int32 → Int32 → Int32 → Int32 → Int32 → Sto → Option (Int32 × Sto)
  | 0, _, _, _, _, _, _, _ => none
  | n + 1, x0, x1, x2, x3, x4, x5, σ => (if x3 ≤ x5 then (some (x4, σ)) else (fX12_fillsFits_b52 (fX12_fillsFits_b39 n) FU x0 x1 x2 x3 x4 x5 x5 ((0 : Int32)) σ))
set_option maxHeartbeats 2000000 in
theorem sX12_fillsFits_b39 {G : GP} {n0 : Nat} : ∀ (n : Nat) (x0 : Nat) (x1 : Int32) (x2 : Int32) (x3 : Int32) (x4 : Int32) (x5 : Int32) (σ : Sto), Sim G mX12_fillsFits 7 0 0 n0 jI 0 0 39 [(0, .ref x0), (1, .int x1), (2, .int x2), (3, .int x3), (4, .int x4), (5, .int x5)] [] σ (fX12_fillsFits_b39 n x0 x1 x2 x3 x4 x5 σ) := by
  intro n
  induction n with
  | zero => intros; rw [fX12_fillsFits_b39]; exact hj_none
  | succ n ih =>
    intro x0 x1 x2 x3 x4 x5 σ
    rw [fX12_fillsFits_b39]
    refine hj_iload 5 dX12_fillsFits_39 rfl ?_
    refine hj_iload_n 3 dX12_fillsFits_41 rfl ?_
    refine hj_icmp_ge 206 dX12_fillsFits_42 (by decide) (fun _ => ?_) (fun _ => ?_)
    · refine hj_iload 4 dX12_fillsFits_206 rfl ?_
      exact hj_iret dX12_fillsFits_208 rfl rfl (Nat.le_refl _)
    · refine hj_iload 5 dX12_fillsFits_45 rfl ?_
      refine hj_istore (lv' := [(0, .ref x0), (1, .int x1), (2, .int x2), (3, .int x3), (4, .int x4), (5, .int x5), (6, .int x5)]) dX12_fillsFits_47 (by decide) [1, 2, 3, 4, 5, 6, 0] rfl ?_
      refine hj_iconst (0 : Int32) dX12_fillsFits_49 (by decide) ?_
      refine hj_istore (lv' := [(0, .ref x0), (1, .int x1), (2, .int x2), (3, .int x3), (4, .int x4), (5, .int x5), (6, .int x5), (7, .int (0 : Int32))]) dX12_fillsFits_50 (by decide) [1, 2, 3, 4, 5, 6, 7, 0] rfl ?_
      refine hj_loc (lv' := [(0, .ref x0), (1, .int x1), (2, .int x2), (3, .int x3), (4, .int x4), (5, .int x5), (6, .int x5), (7, .int (0 : Int32))]) [0, 1, 2, 3, 4, 5, 6, 7] rfl ?_
      exact sX12_fillsFits_b52 ih _ _ _ _ _ _ _ _ _ _
def fX12_fillsFits_b33 (x0 : Nat) (x1 : Int32) (x2 : Int32) (x3 : Int32) (σ : Sto) : Option (Int32 × Sto) := (fX12_fillsFits_b39 FU x0 x1 x2 x3 ((0 : Int32)) ((0 : Int32)) σ)
set_option maxHeartbeats 2000000 in
theorem sX12_fillsFits_b33 {G : GP} {n0 : Nat} : ∀ (x0 : Nat) (x1 : Int32) (x2 : Int32) (x3 : Int32) (σ : Sto), Sim G mX12_fillsFits 7 0 0 n0 jI 0 0 33 [(0, .ref x0), (1, .int x1), (2, .int x2), (3, .int x3)] [] σ (fX12_fillsFits_b33 x0 x1 x2 x3 σ) := by
  intro x0 x1 x2 x3 σ
  unfold fX12_fillsFits_b33
  refine hj_iconst (0 : Int32) dX12_fillsFits_33 (by decide) ?_
  refine hj_istore (lv' := [(0, .ref x0), (1, .int x1), (2, .int x2), (3, .int x3), (4, .int (0 : Int32))]) dX12_fillsFits_34 (by decide) [1, 2, 3, 4, 0] rfl ?_
  refine hj_iconst (0 : Int32) dX12_fillsFits_36 (by decide) ?_
  refine hj_istore (lv' := [(0, .ref x0), (1, .int x1), (2, .int x2), (3, .int x3), (4, .int (0 : Int32)), (5, .int (0 : Int32))]) dX12_fillsFits_37 (by decide) [1, 2, 3, 4, 5, 0] rfl ?_
  refine hj_loc (lv' := [(0, .ref x0), (1, .int x1), (2, .int x2), (3, .int x3), (4, .int (0 : Int32)), (5, .int (0 : Int32))]) [0, 1, 2, 3, 4, 5] rfl ?_
  exact sX12_fillsFits_b39 _ _ _ _ _ _ _ _
def fX12_fillsFits_b9 : Nat → Nat → Int32 → Int32 → Int32 → Int32 → Sto → Option (Int32 × Sto)
  | 0, _, _, _, _, _, _ => none
  | n + 1, x0, x1, x2, x3, x4, σ => ((gR σ 12 x0 22).bind fun t1 => ((gI σ 12 x0 18).bind fun t2 => ((aI σ 2 t1 t2).bind fun t3 => (if t3 ≤ x4 then (fX12_fillsFits_b33 x0 x1 x2 x3 σ) else (lt ((x3 * x1)) fun v4 => (fX12_fillsFits_b9 n x0 x1 x2 v4 (x4 + (1 : Int32)) σ))))))
set_option maxHeartbeats 2000000 in
theorem sX12_fillsFits_b9 {G : GP} {n0 : Nat} : ∀ (n : Nat) (x0 : Nat) (x1 : Int32) (x2 : Int32) (x3 : Int32) (x4 : Int32) (σ : Sto), Sim G mX12_fillsFits 7 0 0 n0 jI 0 0 9 [(0, .ref x0), (1, .int x1), (2, .int x2), (3, .int x3), (4, .int x4)] [] σ (fX12_fillsFits_b9 n x0 x1 x2 x3 x4 σ) := by
  intro n
  induction n with
  | zero => intros; rw [fX12_fillsFits_b9]; exact hj_none
  | succ n ih =>
    intro x0 x1 x2 x3 x4 σ
    rw [fX12_fillsFits_b9]
    refine hj_iload 4 dX12_fillsFits_9 rfl ?_
    refine hj_aload_n 0 dX12_fillsFits_11 rfl ?_
    refine hj_getR flX12_43 dX12_fillsFits_12 (fun t1 _ => ?_)
    refine hj_aload_n 0 dX12_fillsFits_15 rfl ?_
    refine hj_getI flX12_221 dX12_fillsFits_16 (fun t2 _ => ?_)
    refine hj_iald dX12_fillsFits_19 (fun t3 _ => ?_)
    refine hj_icmp_ge 33 dX12_fillsFits_20 (by decide) (fun _ => ?_) (fun _ => ?_)
    · refine hj_loc (lv' := [(0, .ref x0), (1, .int x1), (2, .int x2), (3, .int x3)]) [0, 1, 2, 3] rfl ?_
      exact sX12_fillsFits_b33 _ _ _ _ _
    · refine hj_iload_n 3 dX12_fillsFits_23 rfl ?_
      refine hj_iload_n 1 dX12_fillsFits_24 rfl ?_
      refine hj_imul dX12_fillsFits_25 ?_
      refine hj_ltI (fun v4 _ => ?_)
      refine hj_istore_n (lv' := [(0, .ref x0), (1, .int x1), (2, .int x2), (3, .int v4), (4, .int x4)]) dX12_fillsFits_26 (by decide) [1, 2, 3, 0, 4] rfl ?_
      refine hj_iinc (lv' := [(0, .ref x0), (1, .int x1), (2, .int x2), (3, .int v4), (4, .int (x4 + (1 : Int32)))]) 4 (1 : Int32) dX12_fillsFits_27 rfl (by decide) (by decide) [1, 2, 3, 4, 0] rfl ?_
      refine hj_goto 9 dX12_fillsFits_30 (by decide) ?_
      refine hj_loc (lv' := [(0, .ref x0), (1, .int x1), (2, .int x2), (3, .int v4), (4, .int (x4 + (1 : Int32)))]) [0, 1, 2, 3, 4] rfl ?_
      exact ih _ _ _ _ _ _
def fX12_fillsFits (a0 : Nat) (a1 : Int32) (a2 : Int32) (σ : Sto) : Option (Int32 × Sto) := ck σ 12 a0 (cb (fX12_copies a0 σ) fun _ σ32 => (fX12_fillsFits_b9 FU a0 a1 a2 ((1 : Int32)) ((0 : Int32)) σ32))
set_option maxHeartbeats 2000000 in
theorem kX12_fillsFits (G : GP) (a0 : Nat) (a1 : Int32) (a2 : Int32) (σ : Sto) : Me G mX12_fillsFits 7 0 0 jI [.ref a0, .int a1, .int a2] σ (fX12_fillsFits a0 a1 a2 σ) := by
  refine hs_me (lv := [(0, .ref a0), (1, .int a1), (2, .int a2)]) (plainFor_of_name (by decide +kernel)) (Nat.le_of_ble_eq_true rfl) rfl ?_
  unfold fX12_fillsFits
  refine hj_ck ?_
  refine hj_aload_n 0 dX12_fillsFits_0 rfl ?_
  refine hj_callV (ci := 12) (M' := mX12_copies) (h' := 1) (As := []) mfX12_copies mvX12_copies ⟨_, _, rfl⟩ mlX12_346 dX12_fillsFits_1 (kX12_copies G _ _) (fun _ hr => cX12_copiesk hr) ⟨Nat.le_of_ble_eq_true rfl, Nat.le_of_ble_eq_true rfl⟩ ⟨Nat.le_refl _, Nat.le_refl _⟩ rfl (Nat.le_of_ble_eq_true rfl) (fun _ σ32 _ => ?_)
  refine hj_iconst (1 : Int32) dX12_fillsFits_4 (by decide) ?_
  refine hj_istore_n (lv' := [(0, .ref a0), (1, .int a1), (2, .int a2), (3, .int (1 : Int32))]) dX12_fillsFits_5 (by decide) [1, 2, 3, 0] rfl ?_
  refine hj_iconst (0 : Int32) dX12_fillsFits_6 (by decide) ?_
  refine hj_istore (lv' := [(0, .ref a0), (1, .int a1), (2, .int a2), (3, .int (1 : Int32)), (4, .int (0 : Int32))]) dX12_fillsFits_7 (by decide) [1, 2, 3, 4, 0] rfl ?_
  refine hj_loc (lv' := [(0, .ref a0), (1, .int a1), (2, .int a2), (3, .int (1 : Int32)), (4, .int (0 : Int32))]) [0, 1, 2, 3, 4] rfl ?_
  exact sX12_fillsFits_b9 _ _ _ _ _ _ _
theorem cX12_fillsFitsk {a0 : Nat} {a1 : Int32} {a2 : Int32} {σ : Sto} {r : Int32 × Sto} (h : fX12_fillsFits a0 a1 a2 σ = some r) : ∃ fs, hs_o σ 12 a0 = some fs := (ck_of h).1
def fX12_fits (a0 : Nat) (a1 : Int32) (a2 : Int32) (σ : Sto) : Option (Int32 × Sto) := ck σ 12 a0 (cb (fX12_in a1 ((1 : Int32)) ((6 : Int32)) σ) fun r2 σ1 => (if r2 = 0 then (some ((-1 : Int32), σ1)) else ((gI σ1 12 a0 62).bind fun t3 => (cb (fX12_in a2 ((0 : Int32)) t3 σ1) fun r5 σ4 => (if r5 = 0 then (some ((-1 : Int32), σ4)) else (cb (fX12_fillsFits a0 a1 a2 σ4) fun r7 σ6 => (some (r7, σ6))))))))
set_option maxHeartbeats 2000000 in
theorem kX12_fits (G : GP) (a0 : Nat) (a1 : Int32) (a2 : Int32) (σ : Sto) : Me G mX12_fits 8 0 0 jI [.ref a0, .int a1, .int a2] σ (fX12_fits a0 a1 a2 σ) := by
  refine hs_me (lv := [(0, .ref a0), (1, .int a1), (2, .int a2)]) (plainFor_of_name (by decide +kernel)) (Nat.le_of_ble_eq_true rfl) rfl ?_
  unfold fX12_fits
  refine hj_ck ?_
  refine hj_iload_n 1 dX12_fits_0 rfl ?_
  refine hj_iconst (1 : Int32) dX12_fits_1 (by decide) ?_
  refine hj_bipush (6 : Int32) dX12_fits_2 (by decide) ?_
  refine hj_callS (M' := mX12_in) (h' := 1) (As := [.int a1, .int ((1 : Int32)), .int ((6 : Int32))]) mfX12_in msX12_in mlX12_298 dX12_fits_4 (kX12_in G _ _ _ _) ⟨Nat.le_of_ble_eq_true rfl, Nat.le_of_ble_eq_true rfl⟩ ⟨Nat.le_refl _, Nat.le_refl _⟩ rfl (Nat.le_of_ble_eq_true rfl) (fun r2 σ1 _ => ?_)
  refine hj_if_eq 31 dX12_fits_7 (by decide) (fun _ => ?_) (fun _ => ?_)
  · refine hj_iconst (-1 : Int32) dX12_fits_31 (by decide) ?_
    exact hj_iret dX12_fits_32 rfl rfl (Nat.le_refl _)
  · refine hj_iload_n 2 dX12_fits_10 rfl ?_
    refine hj_iconst (0 : Int32) dX12_fits_11 (by decide) ?_
    refine hj_aload_n 0 dX12_fits_12 rfl ?_
    refine hj_getI flX12_242 dX12_fits_13 (fun t3 _ => ?_)
    refine hj_callS (M' := mX12_in) (h' := 1) (As := [.int a2, .int ((0 : Int32)), .int t3]) mfX12_in msX12_in mlX12_298 dX12_fits_16 (kX12_in G _ _ _ _) ⟨Nat.le_of_ble_eq_true rfl, Nat.le_of_ble_eq_true rfl⟩ ⟨Nat.le_refl _, Nat.le_refl _⟩ rfl (Nat.le_of_ble_eq_true rfl) (fun r5 σ4 _ => ?_)
    refine hj_if_eq 31 dX12_fits_19 (by decide) (fun _ => ?_) (fun _ => ?_)
    · refine hj_iconst (-1 : Int32) dX12_fits_31 (by decide) ?_
      exact hj_iret dX12_fits_32 rfl rfl (Nat.le_refl _)
    · refine hj_aload_n 0 dX12_fits_22 rfl ?_
      refine hj_iload_n 1 dX12_fits_23 rfl ?_
      refine hj_iload_n 2 dX12_fits_24 rfl ?_
      refine hj_callV (ci := 12) (M' := mX12_fillsFits) (h' := 7) (As := [.int a1, .int a2]) mfX12_fillsFits mvX12_fillsFits ⟨_, _, rfl⟩ mlX12_420 dX12_fits_25 (kX12_fillsFits G _ _ _ _) (fun _ hr => cX12_fillsFitsk hr) ⟨Nat.le_of_ble_eq_true rfl, Nat.le_of_ble_eq_true rfl⟩ ⟨Nat.le_refl _, Nat.le_refl _⟩ rfl (Nat.le_of_ble_eq_true rfl) (fun r7 σ6 _ => ?_)
      refine hj_goto 32 dX12_fits_28 (by decide) ?_
      exact hj_iret dX12_fits_32 rfl rfl (Nat.le_refl _)
theorem cX12_fitsk {a0 : Nat} {a1 : Int32} {a2 : Int32} {σ : Sto} {r : Int32 × Sto} (h : fX12_fits a0 a1 a2 σ = some r) : ∃ fs, hs_o σ 12 a0 = some fs := (ck_of h).1
def fX12_span (a0 : Nat) (a1 : Int32) (a2 : Int32) (a3 : Int32) (σ : Sto) : Option (Int32 × Sto) := ck σ 12 a0 (cb (fX12_in a1 ((1 : Int32)) ((6 : Int32)) σ) fun r2 σ1 => (if r2 = 0 then (some ((-1 : Int32), σ1)) else ((gI σ1 12 a0 62).bind fun t3 => (cb (fX12_in a2 ((0 : Int32)) t3 σ1) fun r5 σ4 => (if r5 = 0 then (some ((-1 : Int32), σ4)) else (cb (fX12_isBook a0 a3 σ4) fun r7 σ6 => (if r7 = 0 then (some ((-1 : Int32), σ6)) else (cb (fX12_fillsFits a0 a1 a2 σ6) fun r9 σ8 => (if r9 = 0 then (some ((-2 : Int32), σ8)) else ((gR σ8 12 a0 65).bind fun t10 => ((aI σ8 2 t10 a3).bind fun t11 => ((gR σ8 12 a0 66).bind fun t12 => ((aI σ8 2 t12 a3).bind fun t13 => (some ((((((10 : Int32)) * t11)) + t13), σ8)))))))))))))))
set_option maxHeartbeats 2000000 in
theorem kX12_span (G : GP) (a0 : Nat) (a1 : Int32) (a2 : Int32) (a3 : Int32) (σ : Sto) : Me G mX12_span 8 0 0 jI [.ref a0, .int a1, .int a2, .int a3] σ (fX12_span a0 a1 a2 a3 σ) := by
  refine hs_me (lv := [(0, .ref a0), (1, .int a1), (2, .int a2), (3, .int a3)]) (plainFor_of_name (by decide +kernel)) (Nat.le_of_ble_eq_true rfl) rfl ?_
  unfold fX12_span
  refine hj_ck ?_
  refine hj_iload_n 1 dX12_span_0 rfl ?_
  refine hj_iconst (1 : Int32) dX12_span_1 (by decide) ?_
  refine hj_bipush (6 : Int32) dX12_span_2 (by decide) ?_
  refine hj_callS (M' := mX12_in) (h' := 1) (As := [.int a1, .int ((1 : Int32)), .int ((6 : Int32))]) mfX12_in msX12_in mlX12_298 dX12_span_4 (kX12_in G _ _ _ _) ⟨Nat.le_of_ble_eq_true rfl, Nat.le_of_ble_eq_true rfl⟩ ⟨Nat.le_refl _, Nat.le_refl _⟩ rfl (Nat.le_of_ble_eq_true rfl) (fun r2 σ1 _ => ?_)
  refine hj_if_eq 30 dX12_span_7 (by decide) (fun _ => ?_) (fun _ => ?_)
  · refine hj_iconst (-1 : Int32) dX12_span_30 (by decide) ?_
    exact hj_iret dX12_span_31 rfl rfl (Nat.le_refl _)
  · refine hj_iload_n 2 dX12_span_10 rfl ?_
    refine hj_iconst (0 : Int32) dX12_span_11 (by decide) ?_
    refine hj_aload_n 0 dX12_span_12 rfl ?_
    refine hj_getI flX12_242 dX12_span_13 (fun t3 _ => ?_)
    refine hj_callS (M' := mX12_in) (h' := 1) (As := [.int a2, .int ((0 : Int32)), .int t3]) mfX12_in msX12_in mlX12_298 dX12_span_16 (kX12_in G _ _ _ _) ⟨Nat.le_of_ble_eq_true rfl, Nat.le_of_ble_eq_true rfl⟩ ⟨Nat.le_refl _, Nat.le_refl _⟩ rfl (Nat.le_of_ble_eq_true rfl) (fun r5 σ4 _ => ?_)
    refine hj_if_eq 30 dX12_span_19 (by decide) (fun _ => ?_) (fun _ => ?_)
    · refine hj_iconst (-1 : Int32) dX12_span_30 (by decide) ?_
      exact hj_iret dX12_span_31 rfl rfl (Nat.le_refl _)
    · refine hj_aload_n 0 dX12_span_22 rfl ?_
      refine hj_iload_n 3 dX12_span_23 rfl ?_
      refine hj_callV (ci := 12) (M' := mX12_isBook) (h' := 2) (As := [.int a3]) mfX12_isBook mvX12_isBook ⟨_, _, rfl⟩ mlX12_343 dX12_span_24 (kX12_isBook G _ _ _) (fun _ hr => cX12_isBookk hr) ⟨Nat.le_of_ble_eq_true rfl, Nat.le_of_ble_eq_true rfl⟩ ⟨Nat.le_refl _, Nat.le_refl _⟩ rfl (Nat.le_of_ble_eq_true rfl) (fun r7 σ6 _ => ?_)
      refine hj_if_ne 32 dX12_span_27 (by decide) (fun _ => ?_) (fun _ => ?_)
      · refine hj_aload_n 0 dX12_span_32 rfl ?_
        refine hj_iload_n 1 dX12_span_33 rfl ?_
        refine hj_iload_n 2 dX12_span_34 rfl ?_
        refine hj_callV (ci := 12) (M' := mX12_fillsFits) (h' := 7) (As := [.int a1, .int a2]) mfX12_fillsFits mvX12_fillsFits ⟨_, _, rfl⟩ mlX12_420 dX12_span_35 (kX12_fillsFits G _ _ _ _) (fun _ hr => cX12_fillsFitsk hr) ⟨Nat.le_of_ble_eq_true rfl, Nat.le_of_ble_eq_true rfl⟩ ⟨Nat.le_refl _, Nat.le_refl _⟩ rfl (Nat.le_of_ble_eq_true rfl) (fun r9 σ8 _ => ?_)
        refine hj_if_ne 46 dX12_span_38 (by decide) (fun _ => ?_) (fun _ => ?_)
        · refine hj_bipush (10 : Int32) dX12_span_46 (by decide) ?_
          refine hj_aload_n 0 dX12_span_48 rfl ?_
          refine hj_getR flX12_137 dX12_span_49 (fun t10 _ => ?_)
          refine hj_iload_n 3 dX12_span_52 rfl ?_
          refine hj_iald dX12_span_53 (fun t11 _ => ?_)
          refine hj_imul dX12_span_54 ?_
          refine hj_aload_n 0 dX12_span_55 rfl ?_
          refine hj_getR flX12_140 dX12_span_56 (fun t12 _ => ?_)
          refine hj_iload_n 3 dX12_span_59 rfl ?_
          refine hj_iald dX12_span_60 (fun t13 _ => ?_)
          refine hj_iadd dX12_span_61 ?_
          exact hj_iret dX12_span_62 rfl rfl (Nat.le_refl _)
        · refine hj_bipush (-2 : Int32) dX12_span_41 (by decide) ?_
          refine hj_goto 62 dX12_span_43 (by decide) ?_
          exact hj_iret dX12_span_62 rfl rfl (Nat.le_refl _)
      · refine hj_iconst (-1 : Int32) dX12_span_30 (by decide) ?_
        exact hj_iret dX12_span_31 rfl rfl (Nat.le_refl _)
theorem cX12_spank {a0 : Nat} {a1 : Int32} {a2 : Int32} {a3 : Int32} {σ : Sto} {r : Int32 × Sto} (h : fX12_span a0 a1 a2 a3 σ = some r) : ∃ fs, hs_o σ 12 a0 = some fs := (ck_of h).1
def fX12_hold_b20 : Nat → Nat → Int32 → Int32 → Sto → Option (Int32 × Sto)
  | 0, _, _, _, _ => none
  | n + 1, x0, x1, x2, σ => (if (20 : Int32) ≤ x2 then (some ((1 : Int32), σ)) else ((gR σ 12 x0 68).bind fun t1 => ((gR σ 12 x0 47).bind fun t2 => ((aI σ 2 t2 x2).bind fun t3 => ((sI σ 2 t1 ((((((20 : Int32)) * x1)) + x2)) t3).bind fun σ4 => (fX12_hold_b20 n x0 x1 (x2 + (1 : Int32)) σ4))))))
set_option maxHeartbeats 2000000 in
theorem sX12_hold_b20 {G : GP} {n0 : Nat} : ∀ (n : Nat) (x0 : Nat) (x1 : Int32) (x2 : Int32) (σ : Sto), Sim G mX12_hold 2 0 0 n0 jI 0 0 20 [(0, .ref x0), (1, .int x1), (2, .int x2)] [] σ (fX12_hold_b20 n x0 x1 x2 σ) := by
  intro n
  induction n with
  | zero => intros; rw [fX12_hold_b20]; exact hj_none
  | succ n ih =>
    intro x0 x1 x2 σ
    rw [fX12_hold_b20]
    refine hj_iload_n 2 dX12_hold_20 rfl ?_
    refine hj_bipush (20 : Int32) dX12_hold_21 (by decide) ?_
    refine hj_icmp_ge 49 dX12_hold_23 (by decide) (fun _ => ?_) (fun _ => ?_)
    · refine hj_iconst (1 : Int32) dX12_hold_49 (by decide) ?_
      exact hj_zret dX12_hold_50 rfl (by decide) rfl (Nat.le_refl _)
    · refine hj_aload_n 0 dX12_hold_26 rfl ?_
      refine hj_getR flX12_146 dX12_hold_27 (fun t1 _ => ?_)
      refine hj_bipush (20 : Int32) dX12_hold_30 (by decide) ?_
      refine hj_iload_n 1 dX12_hold_32 rfl ?_
      refine hj_imul dX12_hold_33 ?_
      refine hj_iload_n 2 dX12_hold_34 rfl ?_
      refine hj_iadd dX12_hold_35 ?_
      refine hj_aload_n 0 dX12_hold_36 rfl ?_
      refine hj_getR flX12_107 dX12_hold_37 (fun t2 _ => ?_)
      refine hj_iload_n 2 dX12_hold_40 rfl ?_
      refine hj_iald dX12_hold_41 (fun t3 _ => ?_)
      refine hj_iast dX12_hold_42 (fun σ4 _ => ?_)
      refine hj_iinc (lv' := [(0, .ref x0), (1, .int x1), (2, .int (x2 + (1 : Int32)))]) 2 (1 : Int32) dX12_hold_43 rfl (by decide) (by decide) [1, 2, 0] rfl ?_
      refine hj_goto 20 dX12_hold_46 (by decide) ?_
      refine hj_loc (lv' := [(0, .ref x0), (1, .int x1), (2, .int (x2 + (1 : Int32)))]) [0, 1, 2] rfl ?_
      exact ih _ _ _ _
def fX12_hold (a0 : Nat) (a1 : Int32) (σ : Sto) : Option (Int32 × Sto) := ck σ 12 a0 (cb (fX12_in a1 ((0 : Int32)) ((2 : Int32)) σ) fun r6 σ5 => (if r6 = 0 then (some ((0 : Int32), σ5)) else ((gR σ5 12 a0 67).bind fun t7 => ((sI σ5 4 t7 a1 ((1 : Int32))).bind fun σ8 => (fX12_hold_b20 FU a0 a1 ((0 : Int32)) σ8)))))
set_option maxHeartbeats 2000000 in
theorem kX12_hold (G : GP) (a0 : Nat) (a1 : Int32) (σ : Sto) : Me G mX12_hold 2 0 0 jI [.ref a0, .int a1] σ (fX12_hold a0 a1 σ) := by
  refine hs_me (lv := [(0, .ref a0), (1, .int a1)]) (plainFor_of_name (by decide +kernel)) (Nat.le_of_ble_eq_true rfl) rfl ?_
  unfold fX12_hold
  refine hj_ck ?_
  refine hj_iload_n 1 dX12_hold_0 rfl ?_
  refine hj_iconst (0 : Int32) dX12_hold_1 (by decide) ?_
  refine hj_iconst (2 : Int32) dX12_hold_2 (by decide) ?_
  refine hj_callS (M' := mX12_in) (h' := 1) (As := [.int a1, .int ((0 : Int32)), .int ((2 : Int32))]) mfX12_in msX12_in mlX12_298 dX12_hold_3 (kX12_in G _ _ _ _) ⟨Nat.le_of_ble_eq_true rfl, Nat.le_of_ble_eq_true rfl⟩ ⟨Nat.le_refl _, Nat.le_refl _⟩ rfl (Nat.le_of_ble_eq_true rfl) (fun r6 σ5 _ => ?_)
  refine hj_if_ne 11 dX12_hold_6 (by decide) (fun _ => ?_) (fun _ => ?_)
  · refine hj_aload_n 0 dX12_hold_11 rfl ?_
    refine hj_getR flX12_143 dX12_hold_12 (fun t7 _ => ?_)
    refine hj_iload_n 1 dX12_hold_15 rfl ?_
    refine hj_iconst (1 : Int32) dX12_hold_16 (by decide) ?_
    refine hj_zast dX12_hold_17 (fun σ8 _ => ?_)
    refine hj_iconst (0 : Int32) dX12_hold_18 (by decide) ?_
    refine hj_istore_n (lv' := [(0, .ref a0), (1, .int a1), (2, .int (0 : Int32))]) dX12_hold_19 (by decide) [1, 2, 0] rfl ?_
    refine hj_loc (lv' := [(0, .ref a0), (1, .int a1), (2, .int (0 : Int32))]) [0, 1, 2] rfl ?_
    exact sX12_hold_b20 _ _ _ _ _
  · refine hj_iconst (0 : Int32) dX12_hold_9 (by decide) ?_
    exact hj_zret dX12_hold_10 rfl (by decide) rfl (Nat.le_refl _)
theorem cX12_holdk {a0 : Nat} {a1 : Int32} {σ : Sto} {r : Int32 × Sto} (h : fX12_hold a0 a1 σ = some r) : ∃ fs, hs_o σ 12 a0 = some fs := (ck_of h).1
def fX12_restore_b22 : Nat → Nat → Int32 → Int32 → Sto → Option (Int32 × Sto)
  | 0, _, _, _, _ => none
  | n + 1, x0, x1, x2, σ => (if (20 : Int32) ≤ x2 then ((pV σ 12 x0 55 (.int ((0 : Int32)))).bind fun σ1 => (some ((1 : Int32), σ1))) else ((gR σ 12 x0 47).bind fun t2 => ((gR σ 12 x0 68).bind fun t3 => ((aI σ 2 t3 ((((((20 : Int32)) * x1)) + x2))).bind fun t4 => ((sI σ 2 t2 x2 t4).bind fun σ5 => (fX12_restore_b22 n x0 x1 (x2 + (1 : Int32)) σ5))))))
set_option maxHeartbeats 2000000 in
theorem sX12_restore_b22 {G : GP} {n0 : Nat} : ∀ (n : Nat) (x0 : Nat) (x1 : Int32) (x2 : Int32) (σ : Sto), Sim G mX12_restore 2 0 0 n0 jI 0 0 22 [(0, .ref x0), (1, .int x1), (2, .int x2)] [] σ (fX12_restore_b22 n x0 x1 x2 σ) := by
  intro n
  induction n with
  | zero => intros; rw [fX12_restore_b22]; exact hj_none
  | succ n ih =>
    intro x0 x1 x2 σ
    rw [fX12_restore_b22]
    refine hj_iload_n 2 dX12_restore_22 rfl ?_
    refine hj_bipush (20 : Int32) dX12_restore_23 (by decide) ?_
    refine hj_icmp_ge 51 dX12_restore_25 (by decide) (fun _ => ?_) (fun _ => ?_)
    · refine hj_aload_n 0 dX12_restore_51 rfl ?_
      refine hj_iconst (0 : Int32) dX12_restore_52 (by decide) ?_
      refine hj_put (fpX12_239 _) (fun _ => rfl) (fun _ => rfl) dX12_restore_53 (fun σ1 _ => ?_)
      refine hj_iconst (1 : Int32) dX12_restore_56 (by decide) ?_
      exact hj_zret dX12_restore_57 rfl (by decide) rfl (Nat.le_refl _)
    · refine hj_aload_n 0 dX12_restore_28 rfl ?_
      refine hj_getR flX12_107 dX12_restore_29 (fun t2 _ => ?_)
      refine hj_iload_n 2 dX12_restore_32 rfl ?_
      refine hj_aload_n 0 dX12_restore_33 rfl ?_
      refine hj_getR flX12_146 dX12_restore_34 (fun t3 _ => ?_)
      refine hj_bipush (20 : Int32) dX12_restore_37 (by decide) ?_
      refine hj_iload_n 1 dX12_restore_39 rfl ?_
      refine hj_imul dX12_restore_40 ?_
      refine hj_iload_n 2 dX12_restore_41 rfl ?_
      refine hj_iadd dX12_restore_42 ?_
      refine hj_iald dX12_restore_43 (fun t4 _ => ?_)
      refine hj_iast dX12_restore_44 (fun σ5 _ => ?_)
      refine hj_iinc (lv' := [(0, .ref x0), (1, .int x1), (2, .int (x2 + (1 : Int32)))]) 2 (1 : Int32) dX12_restore_45 rfl (by decide) (by decide) [1, 2, 0] rfl ?_
      refine hj_goto 22 dX12_restore_48 (by decide) ?_
      refine hj_loc (lv' := [(0, .ref x0), (1, .int x1), (2, .int (x2 + (1 : Int32)))]) [0, 1, 2] rfl ?_
      exact ih _ _ _ _
def fX12_restore (a0 : Nat) (a1 : Int32) (σ : Sto) : Option (Int32 × Sto) := ck σ 12 a0 (cb (fX12_in a1 ((0 : Int32)) ((2 : Int32)) σ) fun r7 σ6 => (if r7 = 0 then (some ((0 : Int32), σ6)) else ((gR σ6 12 a0 67).bind fun t8 => ((aI σ6 4 t8 a1).bind fun t9 => (if t9 = 0 then (some ((0 : Int32), σ6)) else (fX12_restore_b22 FU a0 a1 ((0 : Int32)) σ6))))))
set_option maxHeartbeats 2000000 in
theorem kX12_restore (G : GP) (a0 : Nat) (a1 : Int32) (σ : Sto) : Me G mX12_restore 2 0 0 jI [.ref a0, .int a1] σ (fX12_restore a0 a1 σ) := by
  refine hs_me (lv := [(0, .ref a0), (1, .int a1)]) (plainFor_of_name (by decide +kernel)) (Nat.le_of_ble_eq_true rfl) rfl ?_
  unfold fX12_restore
  refine hj_ck ?_
  refine hj_iload_n 1 dX12_restore_0 rfl ?_
  refine hj_iconst (0 : Int32) dX12_restore_1 (by decide) ?_
  refine hj_iconst (2 : Int32) dX12_restore_2 (by decide) ?_
  refine hj_callS (M' := mX12_in) (h' := 1) (As := [.int a1, .int ((0 : Int32)), .int ((2 : Int32))]) mfX12_in msX12_in mlX12_298 dX12_restore_3 (kX12_in G _ _ _ _) ⟨Nat.le_of_ble_eq_true rfl, Nat.le_of_ble_eq_true rfl⟩ ⟨Nat.le_refl _, Nat.le_refl _⟩ rfl (Nat.le_of_ble_eq_true rfl) (fun r7 σ6 _ => ?_)
  refine hj_if_eq 18 dX12_restore_6 (by decide) (fun _ => ?_) (fun _ => ?_)
  · refine hj_iconst (0 : Int32) dX12_restore_18 (by decide) ?_
    exact hj_zret dX12_restore_19 rfl (by decide) rfl (Nat.le_refl _)
  · refine hj_aload_n 0 dX12_restore_9 rfl ?_
    refine hj_getR flX12_143 dX12_restore_10 (fun t8 _ => ?_)
    refine hj_iload_n 1 dX12_restore_13 rfl ?_
    refine hj_zald dX12_restore_14 (fun t9 _ => ?_)
    refine hj_if_ne 20 dX12_restore_15 (by decide) (fun _ => ?_) (fun _ => ?_)
    · refine hj_iconst (0 : Int32) dX12_restore_20 (by decide) ?_
      refine hj_istore_n (lv' := [(0, .ref a0), (1, .int a1), (2, .int (0 : Int32))]) dX12_restore_21 (by decide) [1, 2, 0] rfl ?_
      refine hj_loc (lv' := [(0, .ref a0), (1, .int a1), (2, .int (0 : Int32))]) [0, 1, 2] rfl ?_
      exact sX12_restore_b22 _ _ _ _ _
    · refine hj_iconst (0 : Int32) dX12_restore_18 (by decide) ?_
      exact hj_zret dX12_restore_19 rfl (by decide) rfl (Nat.le_refl _)
theorem cX12_restorek {a0 : Nat} {a1 : Int32} {σ : Sto} {r : Int32 × Sto} (h : fX12_restore a0 a1 σ = some r) : ∃ fs, hs_o σ 12 a0 = some fs := (ck_of h).1
def fX12_count_b135 (K98 : Nat → Int32 → Int32 → Sto → Option (Int32 × Sto)) (x0 : Nat) (x2 : Int32) (x3 : Int32) (σ : Sto) : Option (Int32 × Sto) := (K98 x0 x2 (x3 + (1 : Int32)) σ)
set_option maxHeartbeats 2000000 in
theorem sX12_count_b135 {G : GP} {n0 : Nat} {K98 : Nat → Int32 → Int32 → Sto → Option (Int32 × Sto)} (hK98 : ∀ (x0 : Nat) (x2 : Int32) (x3 : Int32) (σ : Sto), Sim G mX12_count 2 0 0 n0 jI 0 0 98 [(0, .ref x0), (2, .int x2), (3, .int x3)] [] σ (K98 x0 x2 x3 σ)) : ∀ (x0 : Nat) (x2 : Int32) (x3 : Int32) (σ : Sto), Sim G mX12_count 2 0 0 n0 jI 0 0 135 [(0, .ref x0), (2, .int x2), (3, .int x3)] [] σ (fX12_count_b135 K98 x0 x2 x3 σ) := by
  intro x0 x2 x3 σ
  unfold fX12_count_b135
  refine hj_iinc (lv' := [(0, .ref x0), (2, .int x2), (3, .int (x3 + (1 : Int32)))]) 2 (1 : Int32) dX12_count_135 rfl (by decide) (by decide) [1, 2, 0] rfl ?_
  refine hj_goto 98 dX12_count_138 (by decide) ?_
  refine hj_loc (lv' := [(0, .ref x0), (2, .int x2), (3, .int (x3 + (1 : Int32)))]) [0, 1, 2] rfl ?_
  exact hK98 _ _ _ _
def fX12_count_b98 : Nat → Nat → Int32 → Int32 → Sto → Option (Int32 × Sto)
  | 0, _, _, _, _ => none
  | n + 1, x0, x2, x3, σ => ((gR σ 12 x0 26).bind fun t3 => ((gI σ 12 x0 18).bind fun t4 => ((aI σ 2 t3 t4).bind fun t5 => (if t5 ≤ x3 then (some (x2, σ)) else ((gR σ 12 x0 28).bind fun t6 => ((gI σ 12 x0 18).bind fun t7 => ((aI σ 2 t6 ((((((6 : Int32)) * t7)) + x3))).bind fun t8 => (cb (fX12_levelOf x0 t8 σ) fun r10 σ9 => (if r10 < 0 then (fX12_count_b135 (fX12_count_b98 n) x0 x2 x3 σ9) else (fX12_count_b135 (fX12_count_b98 n) x0 (x2 + (1 : Int32)) x3 σ9))))))))))
set_option maxHeartbeats 2000000 in
theorem sX12_count_b98 {G : GP} {n0 : Nat} : ∀ (n : Nat) (x0 : Nat) (x2 : Int32) (x3 : Int32) (σ : Sto), Sim G mX12_count 2 0 0 n0 jI 0 0 98 [(0, .ref x0), (2, .int x2), (3, .int x3)] [] σ (fX12_count_b98 n x0 x2 x3 σ) := by
  intro n
  induction n with
  | zero => intros; rw [fX12_count_b98]; exact hj_none
  | succ n ih =>
    intro x0 x2 x3 σ
    rw [fX12_count_b98]
    refine hj_iload_n 2 dX12_count_98 rfl ?_
    refine hj_aload_n 0 dX12_count_99 rfl ?_
    refine hj_getR flX12_55 dX12_count_100 (fun t3 _ => ?_)
    refine hj_aload_n 0 dX12_count_103 rfl ?_
    refine hj_getI flX12_221 dX12_count_104 (fun t4 _ => ?_)
    refine hj_iald dX12_count_107 (fun t5 _ => ?_)
    refine hj_icmp_ge 141 dX12_count_108 (by decide) (fun _ => ?_) (fun _ => ?_)
    · refine hj_iload_n 1 dX12_count_141 rfl ?_
      exact hj_iret dX12_count_142 rfl rfl (Nat.le_refl _)
    · refine hj_aload_n 0 dX12_count_111 rfl ?_
      refine hj_aload_n 0 dX12_count_112 rfl ?_
      refine hj_getR flX12_61 dX12_count_113 (fun t6 _ => ?_)
      refine hj_bipush (6 : Int32) dX12_count_116 (by decide) ?_
      refine hj_aload_n 0 dX12_count_118 rfl ?_
      refine hj_getI flX12_221 dX12_count_119 (fun t7 _ => ?_)
      refine hj_imul dX12_count_122 ?_
      refine hj_iload_n 2 dX12_count_123 rfl ?_
      refine hj_iadd dX12_count_124 ?_
      refine hj_iald dX12_count_125 (fun t8 _ => ?_)
      refine hj_callV (ci := 12) (M' := mX12_levelOf) (h' := 1) (As := [.int t8]) mfX12_levelOf mvX12_levelOf ⟨_, _, rfl⟩ mlX12_349 dX12_count_126 (kX12_levelOf G _ _ _) (fun _ hr => cX12_levelOfk hr) ⟨Nat.le_of_ble_eq_true rfl, Nat.le_of_ble_eq_true rfl⟩ ⟨Nat.le_refl _, Nat.le_refl _⟩ rfl (Nat.le_of_ble_eq_true rfl) (fun r10 σ9 _ => ?_)
      refine hj_if_lt 135 dX12_count_129 (by decide) (fun _ => ?_) (fun _ => ?_)
      · refine hj_loc (lv' := [(0, .ref x0), (2, .int x2), (3, .int x3)]) [0, 1, 2] rfl ?_
        exact sX12_count_b135 ih _ _ _ _
      · refine hj_iinc (lv' := [(0, .ref x0), (2, .int (x2 + (1 : Int32))), (3, .int x3)]) 1 (1 : Int32) dX12_count_132 rfl (by decide) (by decide) [1, 0, 2] rfl ?_
        refine hj_loc (lv' := [(0, .ref x0), (2, .int (x2 + (1 : Int32))), (3, .int x3)]) [0, 1, 2] rfl ?_
        exact sX12_count_b135 ih _ _ _ _
def fX12_count_b186 (x0 : Nat) (y0 : Int32) (y1 : Int32) (σ : Sto) : Option (Int32 × Sto) := ((gR σ 12 x0 67).bind fun t1 => ((aI σ 4 t1 ((2 : Int32))).bind fun t2 => (if t2 = 0 then (some ((((y0 + y1)) + ((0 : Int32))), σ)) else (some ((((y0 + y1)) + ((1 : Int32))), σ)))))
set_option maxHeartbeats 2000000 in
theorem sX12_count_b186 {G : GP} {n0 : Nat} : ∀ (x0 : Nat) (y0 : Int32) (y1 : Int32) (σ : Sto), Sim G mX12_count 2 0 0 n0 jI 0 0 186 [(0, .ref x0)] [.int y1, .int y0] σ (fX12_count_b186 x0 y0 y1 σ) := by
  intro x0 y0 y1 σ
  unfold fX12_count_b186
  refine hj_iadd dX12_count_186 ?_
  refine hj_aload_n 0 dX12_count_187 rfl ?_
  refine hj_getR flX12_143 dX12_count_188 (fun t1 _ => ?_)
  refine hj_iconst (2 : Int32) dX12_count_191 (by decide) ?_
  refine hj_zald dX12_count_192 (fun t2 _ => ?_)
  refine hj_if_eq 200 dX12_count_193 (by decide) (fun _ => ?_) (fun _ => ?_)
  · refine hj_iconst (0 : Int32) dX12_count_200 (by decide) ?_
    refine hj_iadd dX12_count_201 ?_
    exact hj_iret dX12_count_202 rfl rfl (Nat.le_refl _)
  · refine hj_iconst (1 : Int32) dX12_count_196 (by decide) ?_
    refine hj_goto 201 dX12_count_197 (by decide) ?_
    refine hj_iadd dX12_count_201 ?_
    exact hj_iret dX12_count_202 rfl rfl (Nat.le_refl _)
def fX12_count_b172 (x0 : Nat) (y0 : Int32) (σ : Sto) : Option (Int32 × Sto) := ((gR σ 12 x0 67).bind fun t11 => ((aI σ 4 t11 ((1 : Int32))).bind fun t12 => (if t12 = 0 then (fX12_count_b186 x0 y0 ((0 : Int32)) σ) else (fX12_count_b186 x0 y0 ((1 : Int32)) σ))))
set_option maxHeartbeats 2000000 in
theorem sX12_count_b172 {G : GP} {n0 : Nat} : ∀ (x0 : Nat) (y0 : Int32) (σ : Sto), Sim G mX12_count 2 0 0 n0 jI 0 0 172 [(0, .ref x0)] [.int y0] σ (fX12_count_b172 x0 y0 σ) := by
  intro x0 y0 σ
  unfold fX12_count_b172
  refine hj_aload_n 0 dX12_count_172 rfl ?_
  refine hj_getR flX12_143 dX12_count_173 (fun t11 _ => ?_)
  refine hj_iconst (1 : Int32) dX12_count_176 (by decide) ?_
  refine hj_zald dX12_count_177 (fun t12 _ => ?_)
  refine hj_if_eq 185 dX12_count_178 (by decide) (fun _ => ?_) (fun _ => ?_)
  · refine hj_iconst (0 : Int32) dX12_count_185 (by decide) ?_
    refine hj_loc (lv' := [(0, .ref x0)]) [0] rfl ?_
    exact sX12_count_b186 _ _ _ _
  · refine hj_iconst (1 : Int32) dX12_count_181 (by decide) ?_
    refine hj_goto 186 dX12_count_182 (by decide) ?_
    refine hj_loc (lv' := [(0, .ref x0)]) [0] rfl ?_
    exact sX12_count_b186 _ _ _ _
def fX12_count (a0 : Nat) (a1 : Int32) (σ : Sto) : Option (Int32 × Sto) := ck σ 12 a0 (cb (fX12_copies a0 σ) fun _ σ13 => (if a1 = (0 : Int32) then ((gR σ13 12 a0 22).bind fun t27 => ((gI σ13 12 a0 18).bind fun t28 => ((aI σ13 2 t27 t28).bind fun t29 => (some (t29, σ13))))) else (if a1 = (1 : Int32) then ((gR σ13 12 a0 48).bind fun t25 => ((aI σ13 2 t25 ((18 : Int32))).bind fun t26 => (some (t26, σ13)))) else (if a1 = (2 : Int32) then ((gR σ13 12 a0 25).bind fun t22 => ((gI σ13 12 a0 18).bind fun t23 => ((aI σ13 2 t22 t23).bind fun t24 => (some (t24, σ13))))) else (if a1 = (3 : Int32) then ((gR σ13 12 a0 26).bind fun t19 => ((gI σ13 12 a0 18).bind fun t20 => ((aI σ13 2 t19 t20).bind fun t21 => (some (t21, σ13))))) else (if a1 = (4 : Int32) then (fX12_count_b98 FU a0 ((0 : Int32)) ((0 : Int32)) σ13) else (if a1 = (5 : Int32) then ((gI σ13 12 a0 2).bind fun t18 => (some (t18, σ13))) else (if a1 = (6 : Int32) then ((gI σ13 12 a0 55).bind fun t17 => (some (t17, σ13))) else (if a1 = (7 : Int32) then ((gI σ13 12 a0 62).bind fun t16 => (some (t16, σ13))) else (if a1 = (8 : Int32) then ((gR σ13 12 a0 67).bind fun t14 => ((aI σ13 4 t14 ((0 : Int32))).bind fun t15 => (if t15 = 0 then (fX12_count_b172 a0 ((0 : Int32)) σ13) else (fX12_count_b172 a0 ((1 : Int32)) σ13)))) else (some ((-1 : Int32), σ13))))))))))))
set_option maxHeartbeats 2000000 in
theorem kX12_count (G : GP) (a0 : Nat) (a1 : Int32) (σ : Sto) : Me G mX12_count 2 0 0 jI [.ref a0, .int a1] σ (fX12_count a0 a1 σ) := by
  refine hs_me (lv := [(0, .ref a0), (1, .int a1)]) (plainFor_of_name (by decide +kernel)) (Nat.le_of_ble_eq_true rfl) rfl ?_
  unfold fX12_count
  refine hj_ck ?_
  refine hj_aload_n 0 dX12_count_0 rfl ?_
  refine hj_callV (ci := 12) (M' := mX12_copies) (h' := 1) (As := []) mfX12_copies mvX12_copies ⟨_, _, rfl⟩ mlX12_346 dX12_count_1 (kX12_copies G _ _) (fun _ hr => cX12_copiesk hr) ⟨Nat.le_of_ble_eq_true rfl, Nat.le_of_ble_eq_true rfl⟩ ⟨Nat.le_refl _, Nat.le_refl _⟩ rfl (Nat.le_of_ble_eq_true rfl) (fun _ σ13 _ => ?_)
  refine hj_iload_n 1 dX12_count_4 rfl ?_
  refine hj_ite (fun n0 => ?_) (fun n0 => ?_)
  · refine hj_tin (0 : Int32) (51) 56 dX12_count_5 n0 (by decide) (by decide) (by decide) (by decide) ?_
    refine hj_aload_n 0 dX12_count_56 rfl ?_
    refine hj_getR flX12_43 dX12_count_57 (fun t27 _ => ?_)
    refine hj_aload_n 0 dX12_count_60 rfl ?_
    refine hj_getI flX12_221 dX12_count_61 (fun t28 _ => ?_)
    refine hj_iald dX12_count_64 (fun t29 _ => ?_)
    exact hj_iret dX12_count_65 rfl rfl (Nat.le_refl _)
  · refine hj_ite (fun n1 => ?_) (fun n1 => ?_)
    · refine hj_tin (1 : Int32) (61) 66 dX12_count_5 n1 (by decide) (by decide) (by decide) (by decide) ?_
      refine hj_aload_n 0 dX12_count_66 rfl ?_
      refine hj_getR flX12_110 dX12_count_67 (fun t25 _ => ?_)
      refine hj_bipush (18 : Int32) dX12_count_70 (by decide) ?_
      refine hj_iald dX12_count_72 (fun t26 _ => ?_)
      exact hj_iret dX12_count_73 rfl rfl (Nat.le_refl _)
    · refine hj_ite (fun n2 => ?_) (fun n2 => ?_)
      · refine hj_tin (2 : Int32) (69) 74 dX12_count_5 n2 (by decide) (by decide) (by decide) (by decide) ?_
        refine hj_aload_n 0 dX12_count_74 rfl ?_
        refine hj_getR flX12_52 dX12_count_75 (fun t22 _ => ?_)
        refine hj_aload_n 0 dX12_count_78 rfl ?_
        refine hj_getI flX12_221 dX12_count_79 (fun t23 _ => ?_)
        refine hj_iald dX12_count_82 (fun t24 _ => ?_)
        exact hj_iret dX12_count_83 rfl rfl (Nat.le_refl _)
      · refine hj_ite (fun n3 => ?_) (fun n3 => ?_)
        · refine hj_tin (3 : Int32) (79) 84 dX12_count_5 n3 (by decide) (by decide) (by decide) (by decide) ?_
          refine hj_aload_n 0 dX12_count_84 rfl ?_
          refine hj_getR flX12_55 dX12_count_85 (fun t19 _ => ?_)
          refine hj_aload_n 0 dX12_count_88 rfl ?_
          refine hj_getI flX12_221 dX12_count_89 (fun t20 _ => ?_)
          refine hj_iald dX12_count_92 (fun t21 _ => ?_)
          exact hj_iret dX12_count_93 rfl rfl (Nat.le_refl _)
        · refine hj_ite (fun n4 => ?_) (fun n4 => ?_)
          · refine hj_tin (4 : Int32) (89) 94 dX12_count_5 n4 (by decide) (by decide) (by decide) (by decide) ?_
            refine hj_iconst (0 : Int32) dX12_count_94 (by decide) ?_
            refine hj_istore_n (lv' := [(0, .ref a0), (1, .int a1), (2, .int (0 : Int32))]) dX12_count_95 (by decide) [1, 2, 0] rfl ?_
            refine hj_iconst (0 : Int32) dX12_count_96 (by decide) ?_
            refine hj_istore_n (lv' := [(0, .ref a0), (1, .int a1), (2, .int (0 : Int32)), (3, .int (0 : Int32))]) dX12_count_97 (by decide) [1, 2, 3, 0] rfl ?_
            refine hj_loc (lv' := [(0, .ref a0), (2, .int (0 : Int32)), (3, .int (0 : Int32))]) [0, 2, 3] rfl ?_
            exact sX12_count_b98 _ _ _ _ _
          · refine hj_ite (fun n5 => ?_) (fun n5 => ?_)
            · refine hj_tin (5 : Int32) (138) 143 dX12_count_5 n5 (by decide) (by decide) (by decide) (by decide) ?_
              refine hj_aload_n 0 dX12_count_143 rfl ?_
              refine hj_getI flX12_153 dX12_count_144 (fun t18 _ => ?_)
              exact hj_iret dX12_count_147 rfl rfl (Nat.le_refl _)
            · refine hj_ite (fun n6 => ?_) (fun n6 => ?_)
              · refine hj_tin (6 : Int32) (143) 148 dX12_count_5 n6 (by decide) (by decide) (by decide) (by decide) ?_
                refine hj_aload_n 0 dX12_count_148 rfl ?_
                refine hj_getI flX12_239 dX12_count_149 (fun t17 _ => ?_)
                exact hj_iret dX12_count_152 rfl rfl (Nat.le_refl _)
              · refine hj_ite (fun n7 => ?_) (fun n7 => ?_)
                · refine hj_tin (7 : Int32) (148) 153 dX12_count_5 n7 (by decide) (by decide) (by decide) (by decide) ?_
                  refine hj_aload_n 0 dX12_count_153 rfl ?_
                  refine hj_getI flX12_242 dX12_count_154 (fun t16 _ => ?_)
                  exact hj_iret dX12_count_157 rfl rfl (Nat.le_refl _)
                · refine hj_ite (fun n8 => ?_) (fun n8 => ?_)
                  · refine hj_tin (8 : Int32) (153) 158 dX12_count_5 n8 (by decide) (by decide) (by decide) (by decide) ?_
                    refine hj_aload_n 0 dX12_count_158 rfl ?_
                    refine hj_getR flX12_143 dX12_count_159 (fun t14 _ => ?_)
                    refine hj_iconst (0 : Int32) dX12_count_162 (by decide) ?_
                    refine hj_zald dX12_count_163 (fun t15 _ => ?_)
                    refine hj_if_eq 171 dX12_count_164 (by decide) (fun _ => ?_) (fun _ => ?_)
                    · refine hj_iconst (0 : Int32) dX12_count_171 (by decide) ?_
                      refine hj_loc (lv' := [(0, .ref a0)]) [0] rfl ?_
                      exact sX12_count_b172 _ _ _
                    · refine hj_iconst (1 : Int32) dX12_count_167 (by decide) ?_
                      refine hj_goto 172 dX12_count_168 (by decide) ?_
                      refine hj_loc (lv' := [(0, .ref a0)]) [0] rfl ?_
                      exact sX12_count_b172 _ _ _
                  · refine hj_tout 203 dX12_count_5 (by have := lv_neT (a := 0) n0 (by decide); have := lv_neT (a := 1) n1 (by decide); have := lv_neT (a := 2) n2 (by decide); have := lv_neT (a := 3) n3 (by decide); have := lv_neT (a := 4) n4 (by decide); have := lv_neT (a := 5) n5 (by decide); have := lv_neT (a := 6) n6 (by decide); have := lv_neT (a := 7) n7 (by decide); have := lv_neT (a := 8) n8 (by decide); omega) (by decide) ?_
                    refine hj_iconst (-1 : Int32) dX12_count_203 (by decide) ?_
                    exact hj_iret dX12_count_204 rfl rfl (Nat.le_refl _)
theorem cX12_countk {a0 : Nat} {a1 : Int32} {σ : Sto} {r : Int32 × Sto} (h : fX12_count a0 a1 σ = some r) : ∃ fs, hs_o σ 12 a0 = some fs := (ck_of h).1
