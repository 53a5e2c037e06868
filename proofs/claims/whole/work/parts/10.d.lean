def fX7_take_b16 : Nat → Nat → Nat → Nat → Int32 → Sto → Option (Unit × Sto)
  | 0, _, _, _, _, _ => none
  | n + 1, x0, x1, x2, x4, σ => ((gI σ 7 x0 1).bind fun t1 => (if t1 ≤ x4 then (some ((), σ)) else ((gR σ 7 x0 2).bind fun t2 => ((gR σ 5 x2 1).bind fun t3 => ((aI σ 2 t3 x4).bind fun t4 => ((sI σ 2 t2 x4 t4).bind fun σ5 => ((gR σ5 7 x0 3).bind fun t6 => (cb (fX5_twiceMiddle x2 x1 x4 σ5) fun r8 σ7 => ((sI σ7 2 t6 x4 r8).bind fun σ9 => ((gR σ9 7 x0 4).bind fun t10 => ((gR σ9 10 x1 12).bind fun t11 => ((gR σ9 7 x0 2).bind fun t12 => ((aI σ9 2 t12 x4).bind fun t13 => ((aI σ9 2 t11 t13).bind fun t14 => ((sI σ9 2 t10 x4 t14).bind fun σ15 => ((gR σ15 7 x0 5).bind fun t16 => (cb (fX5_twiceFlyTurn x2 x1 x4 σ15) fun r18 σ17 => ((sI σ17 2 t16 x4 r18).bind fun σ19 => ((gR σ19 7 x0 6).bind fun t20 => (cb (fX5_restLeft x2 x1 x4 σ19) fun r22 σ21 => ((sI σ21 2 t20 x4 ((((2 : Int32)) * r22))).bind fun σ23 => ((gR σ23 7 x0 7).bind fun t24 => (cb (fX5_restRight x2 x1 x4 σ23) fun r26 σ25 => ((sI σ25 2 t24 x4 ((((2 : Int32)) * r26))).bind fun σ27 => ((gR σ27 7 x0 8).bind fun t28 => (cb (fX5_isHeldByGlue x2 x4 σ27) fun r30 σ29 => ((sI σ29 4 t28 x4 r30).bind fun σ31 => (fX7_take_b16 n x0 x1 x2 (x4 + (1 : Int32)) σ31))))))))))))))))))))))))))))
set_option maxHeartbeats 2000000 in
theorem sX7_take_b16 {G : GP} {n0 : Nat} : ∀ (n : Nat) (x0 : Nat) (x1 : Nat) (x2 : Nat) (x4 : Int32) (σ : Sto), Sim G mX7_take 3 0 0 n0 jV 0 0 16 [(0, .ref x0), (1, .ref x1), (2, .ref x2), (4, .int x4)] [] σ (fX7_take_b16 n x0 x1 x2 x4 σ) := by
  intro n
  induction n with
  | zero => intros; rw [fX7_take_b16]; exact hj_none
  | succ n ih =>
    intro x0 x1 x2 x4 σ
    rw [fX7_take_b16]
    refine hj_iload 3 dX7_take_16 rfl ?_
    refine hj_aload_n 0 dX7_take_18 rfl ?_
    refine hj_getI flX7_15 dX7_take_19 (fun t1 _ => ?_)
    refine hj_icmp_ge 137 dX7_take_22 (by decide) (fun _ => ?_) (fun _ => ?_)
    · exact hj_vret dX7_take_137 rfl rfl (Nat.le_refl _)
    · refine hj_aload_n 0 dX7_take_25 rfl ?_
      refine hj_getR flX7_19 dX7_take_26 (fun t2 _ => ?_)
      refine hj_iload 3 dX7_take_29 rfl ?_
      refine hj_aload_n 2 dX7_take_31 rfl ?_
      refine hj_getR flX7_45 dX7_take_32 (fun t3 _ => ?_)
      refine hj_iload 3 dX7_take_35 rfl ?_
      refine hj_iald dX7_take_37 (fun t4 _ => ?_)
      refine hj_iast dX7_take_38 (fun σ5 _ => ?_)
      refine hj_aload_n 0 dX7_take_39 rfl ?_
      refine hj_getR flX7_23 dX7_take_40 (fun t6 _ => ?_)
      refine hj_iload 3 dX7_take_43 rfl ?_
      refine hj_aload_n 2 dX7_take_45 rfl ?_
      refine hj_aload_n 1 dX7_take_46 rfl ?_
      refine hj_iload 3 dX7_take_47 rfl ?_
      refine hj_callV (ci := 5) (M' := mX5_twiceMiddle) (h' := 2) (As := [.ref x1, .int x4]) mfX5_twiceMiddle mvX5_twiceMiddle ⟨_, _, rfl⟩ mlX7_46 dX7_take_49 (kX5_twiceMiddle G _ _ _ _) (fun _ hr => cX5_twiceMiddlek hr) ⟨Nat.le_of_ble_eq_true rfl, Nat.le_of_ble_eq_true rfl⟩ ⟨Nat.le_refl _, Nat.le_refl _⟩ rfl (Nat.le_of_ble_eq_true rfl) (fun r8 σ7 _ => ?_)
      refine hj_iast dX7_take_52 (fun σ9 _ => ?_)
      refine hj_aload_n 0 dX7_take_53 rfl ?_
      refine hj_getR flX7_26 dX7_take_54 (fun t10 _ => ?_)
      refine hj_iload 3 dX7_take_57 rfl ?_
      refine hj_aload_n 1 dX7_take_59 rfl ?_
      refine hj_getR flX7_50 dX7_take_60 (fun t11 _ => ?_)
      refine hj_aload_n 0 dX7_take_63 rfl ?_
      refine hj_getR flX7_19 dX7_take_64 (fun t12 _ => ?_)
      refine hj_iload 3 dX7_take_67 rfl ?_
      refine hj_iald dX7_take_69 (fun t13 _ => ?_)
      refine hj_iald dX7_take_70 (fun t14 _ => ?_)
      refine hj_iast dX7_take_71 (fun σ15 _ => ?_)
      refine hj_aload_n 0 dX7_take_72 rfl ?_
      refine hj_getR flX7_29 dX7_take_73 (fun t16 _ => ?_)
      refine hj_iload 3 dX7_take_76 rfl ?_
      refine hj_aload_n 2 dX7_take_78 rfl ?_
      refine hj_aload_n 1 dX7_take_79 rfl ?_
      refine hj_iload 3 dX7_take_80 rfl ?_
      refine hj_callV (ci := 5) (M' := mX5_twiceFlyTurn) (h' := 1) (As := [.ref x1, .int x4]) mfX5_twiceFlyTurn mvX5_twiceFlyTurn ⟨_, _, rfl⟩ mlX7_53 dX7_take_82 (kX5_twiceFlyTurn G _ _ _ _) (fun _ hr => cX5_twiceFlyTurnk hr) ⟨Nat.le_of_ble_eq_true rfl, Nat.le_of_ble_eq_true rfl⟩ ⟨Nat.le_refl _, Nat.le_refl _⟩ rfl (Nat.le_of_ble_eq_true rfl) (fun r18 σ17 _ => ?_)
      refine hj_iast dX7_take_85 (fun σ19 _ => ?_)
      refine hj_aload_n 0 dX7_take_86 rfl ?_
      refine hj_getR flX7_32 dX7_take_87 (fun t20 _ => ?_)
      refine hj_iload 3 dX7_take_90 rfl ?_
      refine hj_iconst (2 : Int32) dX7_take_92 (by decide) ?_
      refine hj_aload_n 2 dX7_take_93 rfl ?_
      refine hj_aload_n 1 dX7_take_94 rfl ?_
      refine hj_iload 3 dX7_take_95 rfl ?_
      refine hj_callV (ci := 5) (M' := mX5_restLeft) (h' := 2) (As := [.ref x1, .int x4]) mfX5_restLeft mvX5_restLeft ⟨_, _, rfl⟩ mlX7_56 dX7_take_97 (kX5_restLeft G _ _ _ _) (fun _ hr => cX5_restLeftk hr) ⟨Nat.le_of_ble_eq_true rfl, Nat.le_of_ble_eq_true rfl⟩ ⟨Nat.le_refl _, Nat.le_refl _⟩ rfl (Nat.le_of_ble_eq_true rfl) (fun r22 σ21 _ => ?_)
      refine hj_imul dX7_take_100 ?_
      refine hj_iast dX7_take_101 (fun σ23 _ => ?_)
      refine hj_aload_n 0 dX7_take_102 rfl ?_
      refine hj_getR flX7_35 dX7_take_103 (fun t24 _ => ?_)
      refine hj_iload 3 dX7_take_106 rfl ?_
      refine hj_iconst (2 : Int32) dX7_take_108 (by decide) ?_
      refine hj_aload_n 2 dX7_take_109 rfl ?_
      refine hj_aload_n 1 dX7_take_110 rfl ?_
      refine hj_iload 3 dX7_take_111 rfl ?_
      refine hj_callV (ci := 5) (M' := mX5_restRight) (h' := 2) (As := [.ref x1, .int x4]) mfX5_restRight mvX5_restRight ⟨_, _, rfl⟩ mlX7_59 dX7_take_113 (kX5_restRight G _ _ _ _) (fun _ hr => cX5_restRightk hr) ⟨Nat.le_of_ble_eq_true rfl, Nat.le_of_ble_eq_true rfl⟩ ⟨Nat.le_refl _, Nat.le_refl _⟩ rfl (Nat.le_of_ble_eq_true rfl) (fun r26 σ25 _ => ?_)
      refine hj_imul dX7_take_116 ?_
      refine hj_iast dX7_take_117 (fun σ27 _ => ?_)
      refine hj_aload_n 0 dX7_take_118 rfl ?_
      refine hj_getR flX7_38 dX7_take_119 (fun t28 _ => ?_)
      refine hj_iload 3 dX7_take_122 rfl ?_
      refine hj_aload_n 2 dX7_take_124 rfl ?_
      refine hj_iload 3 dX7_take_125 rfl ?_
      refine hj_callV (ci := 5) (M' := mX5_isHeldByGlue) (h' := 1) (As := [.int x4]) mfX5_isHeldByGlue mvX5_isHeldByGlue ⟨_, _, rfl⟩ mlX7_62 dX7_take_127 (kX5_isHeldByGlue G _ _ _) (fun _ hr => cX5_isHeldByGluek hr) ⟨Nat.le_of_ble_eq_true rfl, Nat.le_of_ble_eq_true rfl⟩ ⟨Nat.le_refl _, Nat.le_refl _⟩ rfl (Nat.le_of_ble_eq_true rfl) (fun r30 σ29 _ => ?_)
      refine hj_zast dX7_take_130 (fun σ31 _ => ?_)
      refine hj_iinc (lv' := [(0, .ref x0), (1, .ref x1), (2, .ref x2), (4, .int (x4 + (1 : Int32)))]) 3 (1 : Int32) dX7_take_131 rfl (by decide) (by decide) [1, 2, 3, 0] rfl ?_
      refine hj_goto 16 dX7_take_134 (by decide) ?_
      refine hj_loc (lv' := [(0, .ref x0), (1, .ref x1), (2, .ref x2), (4, .int (x4 + (1 : Int32)))]) [0, 1, 2, 3] rfl ?_
      exact ih _ _ _ _ _
def fX7_take (a0 : Nat) (a1 : Nat) (a2 : Nat) (a3 : Int32) (σ : Sto) : Option (Unit × Sto) := ck σ 7 a0 (if a3 = 0 ∨ a3 = 1 then ((pV σ 7 a0 0 (.int a3)).bind fun σ32 => ((gI σ32 5 a2 0).bind fun t33 => ((pV σ32 7 a0 1 (.int t33)).bind fun σ34 => (fX7_take_b16 FU a0 a1 a2 ((0 : Int32)) σ34)))) else none)
set_option maxHeartbeats 2000000 in
theorem kX7_take (G : GP) (a0 : Nat) (a1 : Nat) (a2 : Nat) (a3 : Int32) (σ : Sto) : Me G mX7_take 3 0 0 jV [.ref a0, .ref a1, .ref a2, .int a3] σ (fX7_take a0 a1 a2 a3 σ) := by
  refine hs_me (lv := [(0, .ref a0), (1, .ref a1), (2, .ref a2), (3, .int a3)]) (plainFor_of_name (by decide +kernel)) (Nat.le_of_ble_eq_true rfl) rfl ?_
  unfold fX7_take
  refine hj_ck ?_
  refine hj_aload_n 0 dX7_take_0 rfl ?_
  refine hj_iload_n 3 dX7_take_1 rfl ?_
  refine hj_ite (fun hz => ?_) (fun _ => hj_none)
  refine hj_put (fpX7_9 _) (fun _ => by rcases hz with hz | hz <;> rw [hz] <;> rfl) (fun _ => by rcases hz with hz | hz <;> rw [hz] <;> rfl) dX7_take_2 (fun σ32 _ => ?_)
  refine hj_aload_n 0 dX7_take_5 rfl ?_
  refine hj_aload_n 2 dX7_take_6 rfl ?_
  refine hj_getI flX7_42 dX7_take_7 (fun t33 _ => ?_)
  refine hj_put (fpX7_15 _) (fun _ => rfl) (fun _ => rfl) dX7_take_10 (fun σ34 _ => ?_)
  refine hj_iconst (0 : Int32) dX7_take_13 (by decide) ?_
  refine hj_istore (lv' := [(0, .ref a0), (1, .ref a1), (2, .ref a2), (3, .int a3), (4, .int (0 : Int32))]) dX7_take_14 (by decide) [1, 2, 3, 4, 0] rfl ?_
  refine hj_loc (lv' := [(0, .ref a0), (1, .ref a1), (2, .ref a2), (4, .int (0 : Int32))]) [0, 1, 2, 4] rfl ?_
  exact sX7_take_b16 _ _ _ _ _ _
theorem cX7_takek {a0 : Nat} {a1 : Nat} {a2 : Nat} {a3 : Int32} {σ : Sto} {r : Unit × Sto} (h : fX7_take a0 a1 a2 a3 σ = some r) : ∃ fs, hs_o σ 7 a0 = some fs := (ck_of h).1
def fX1_note (a0 : Nat) (a1 : Nat) (a2 : Nat) (a3 : Int32) (σ : Sto) : Option (Int32 × Sto) := ck σ 1 a0 ((gI σ 1 a0 0).bind fun t1 => (if t1 < (6 : Int32) then ((gR σ 1 a0 1).bind fun t2 => ((gI σ 1 a0 0).bind fun t3 => ((aR σ 7 t2 t3).bind fun t4 => (cb (fX7_take t4 a1 a2 a3 σ) fun _ σ5 => ((gI σ5 1 a0 0).bind fun t6 => ((pV σ5 1 a0 0 (.int ((t6 + ((1 : Int32)))))).bind fun σ7 => ((gI σ7 1 a0 0).bind fun t8 => (some ((t8 - ((1 : Int32))), σ7))))))))) else (some ((-1 : Int32), σ))))
set_option maxHeartbeats 2000000 in
theorem kX1_note (G : GP) (a0 : Nat) (a1 : Nat) (a2 : Nat) (a3 : Int32) (σ : Sto) : Me G mX1_note 4 0 0 jI [.ref a0, .ref a1, .ref a2, .int a3] σ (fX1_note a0 a1 a2 a3 σ) := by
  refine hs_me (lv := [(0, .ref a0), (1, .ref a1), (2, .ref a2), (3, .int a3)]) (plainFor_of_name (by decide +kernel)) (Nat.le_of_ble_eq_true rfl) rfl ?_
  unfold fX1_note
  refine hj_ck ?_
  refine hj_aload_n 0 dX1_note_0 rfl ?_
  refine hj_getI flX1_9 dX1_note_1 (fun t1 _ => ?_)
  refine hj_bipush (6 : Int32) dX1_note_4 (by decide) ?_
  refine hj_icmp_lt 11 dX1_note_6 (by decide) (fun _ => ?_) (fun _ => ?_)
  · refine hj_aload_n 0 dX1_note_11 rfl ?_
    refine hj_getR flX1_17 dX1_note_12 (fun t2 _ => ?_)
    refine hj_aload_n 0 dX1_note_15 rfl ?_
    refine hj_getI flX1_9 dX1_note_16 (fun t3 _ => ?_)
    refine hj_aald7 dX1_note_19 (fun t4 _ => ?_)
    refine hj_aload_n 1 dX1_note_20 rfl ?_
    refine hj_aload_n 2 dX1_note_21 rfl ?_
    refine hj_iload_n 3 dX1_note_22 rfl ?_
    refine hj_callV (ci := 7) (M' := mX7_take) (h' := 3) (As := [.ref a1, .ref a2, .int a3]) mfX7_take mvX7_take ⟨_, _, rfl⟩ mlX1_41 dX1_note_23 (kX7_take G _ _ _ _ _) (fun _ hr => cX7_takek hr) ⟨Nat.le_of_ble_eq_true rfl, Nat.le_of_ble_eq_true rfl⟩ ⟨Nat.le_refl _, Nat.le_refl _⟩ rfl (Nat.le_of_ble_eq_true rfl) (fun _ σ5 _ => ?_)
    refine hj_aload_n 0 dX1_note_26 rfl ?_
    refine hj_dup dX1_note_27 rfl ?_
    refine hj_getI flX1_9 dX1_note_28 (fun t6 _ => ?_)
    refine hj_iconst (1 : Int32) dX1_note_31 (by decide) ?_
    refine hj_iadd dX1_note_32 ?_
    refine hj_put (fpX1_9 _) (fun _ => rfl) (fun _ => rfl) dX1_note_33 (fun σ7 _ => ?_)
    refine hj_aload_n 0 dX1_note_36 rfl ?_
    refine hj_getI flX1_9 dX1_note_37 (fun t8 _ => ?_)
    refine hj_iconst (1 : Int32) dX1_note_40 (by decide) ?_
    refine hj_isub dX1_note_41 ?_
    exact hj_iret dX1_note_42 rfl rfl (Nat.le_refl _)
  · refine hj_iconst (-1 : Int32) dX1_note_9 (by decide) ?_
    exact hj_iret dX1_note_10 rfl rfl (Nat.le_refl _)
theorem cX1_notek {a0 : Nat} {a1 : Nat} {a2 : Nat} {a3 : Int32} {σ : Sto} {r : Int32 × Sto} (h : fX1_note a0 a1 a2 a3 σ = some r) : ∃ fs, hs_o σ 1 a0 = some fs := (ck_of h).1
def fX7_agrees_b98 (x0 : Nat) (σ : Sto) : Option (Int32 × Sto) := ((gI σ 7 x0 0).bind fun t1 => (if t1 = 0 then (some ((1 : Int32), σ)) else (some ((0 : Int32), σ))))
set_option maxHeartbeats 2000000 in
theorem sX7_agrees_b98 {G : GP} {n0 : Nat} : ∀ (x0 : Nat) (σ : Sto), Sim G mX7_agrees 1 0 0 n0 jI 0 0 98 [(0, .ref x0)] [] σ (fX7_agrees_b98 x0 σ) := by
  intro x0 σ
  unfold fX7_agrees_b98
  refine hj_aload_n 0 dX7_agrees_98 rfl ?_
  refine hj_getI flX7_9 dX7_agrees_99 (fun t1 _ => ?_)
  refine hj_if_ne 109 dX7_agrees_102 (by decide) (fun _ => ?_) (fun _ => ?_)
  · refine hj_iconst (0 : Int32) dX7_agrees_109 (by decide) ?_
    exact hj_zret dX7_agrees_110 rfl (by decide) rfl (Nat.le_refl _)
  · refine hj_iconst (1 : Int32) dX7_agrees_105 (by decide) ?_
    refine hj_goto 110 dX7_agrees_106 (by decide) ?_
    exact hj_zret dX7_agrees_110 rfl (by decide) rfl (Nat.le_refl _)
def fX7_agrees_b111 (K12 : Nat → Nat → Int32 → Int32 → Int32 → Sto → Option (Int32 × Sto)) (x0 : Nat) (x1 : Nat) (x2 : Int32) (x3 : Int32) (x4 : Int32) (σ : Sto) : Option (Int32 × Sto) := (K12 x0 x1 x2 x3 (x4 + (-1 : Int32)) σ)
set_option maxHeartbeats 2000000 in
theorem sX7_agrees_b111 {G : GP} {n0 : Nat} {K12 : Nat → Nat → Int32 → Int32 → Int32 → Sto → Option (Int32 × Sto)} (hK12 : ∀ (x0 : Nat) (x1 : Nat) (x2 : Int32) (x3 : Int32) (x4 : Int32) (σ : Sto), Sim G mX7_agrees 1 0 0 n0 jI 0 0 12 [(0, .ref x0), (1, .ref x1), (2, .int x2), (3, .int x3), (4, .int x4)] [] σ (K12 x0 x1 x2 x3 x4 σ)) : ∀ (x0 : Nat) (x1 : Nat) (x2 : Int32) (x3 : Int32) (x4 : Int32) (σ : Sto), Sim G mX7_agrees 1 0 0 n0 jI 0 0 111 [(0, .ref x0), (1, .ref x1), (2, .int x2), (3, .int x3), (4, .int x4)] [] σ (fX7_agrees_b111 K12 x0 x1 x2 x3 x4 σ) := by
  intro x0 x1 x2 x3 x4 σ
  unfold fX7_agrees_b111
  refine hj_iinc (lv' := [(0, .ref x0), (1, .ref x1), (2, .int x2), (3, .int x3), (4, .int (x4 + (-1 : Int32)))]) 4 (-1 : Int32) dX7_agrees_111 rfl (by decide) (by decide) [1, 2, 3, 4, 0] rfl ?_
  refine hj_goto 12 dX7_agrees_114 (by decide) ?_
  refine hj_loc (lv' := [(0, .ref x0), (1, .ref x1), (2, .int x2), (3, .int x3), (4, .int (x4 + (-1 : Int32)))]) [0, 1, 2, 3, 4] rfl ?_
  exact hK12 _ _ _ _ _ _
def fX7_agrees_b12 : Nat → Nat → Nat → Int32 → Int32 → Int32 → Sto → Option (Int32 × Sto)
  | 0, _, _, _, _, _, _ => none
  | n + 1, x0, x1, x2, x3, x4, σ => (if x4 < 0 then ((gI σ 7 x0 0).bind fun t2 => (rZ t2 σ)) else ((gR σ 7 x0 2).bind fun t3 => ((aI σ 2 t3 x4).bind fun t4 => ((aI σ 2 x1 t4).bind fun t5 => ((gR σ 7 x0 4).bind fun t6 => ((aI σ 2 t6 x4).bind fun t7 => (lt ((x2 + ((t5 + t7)))) fun v8 => ((gR σ 7 x0 3).bind fun t9 => ((aI σ 2 t9 x4).bind fun t10 => ((gR σ 7 x0 5).bind fun t11 => ((aI σ 2 t11 x4).bind fun t12 => (lt ((x3 + ((((t5 * t10)) + t12)))) fun v13 => ((gR σ 7 x0 8).bind fun t14 => ((aI σ 4 t14 x4).bind fun t15 => (if t15 = 0 then ((gR σ 7 x0 6).bind fun t16 => ((aI σ 2 t16 x4).bind fun t17 => (if v13 < (t17 * v8) then (fX7_agrees_b98 x0 σ) else ((gR σ 7 x0 7).bind fun t18 => ((aI σ 2 t18 x4).bind fun t19 => (if v13 ≤ (t19 * v8) then (fX7_agrees_b111 (fX7_agrees_b12 n) x0 x1 v8 v13 x4 σ) else (fX7_agrees_b98 x0 σ))))))) else (fX7_agrees_b111 (fX7_agrees_b12 n) x0 x1 v8 v13 x4 σ))))))))))))))))
set_option maxHeartbeats 2000000 in
theorem sX7_agrees_b12 {G : GP} {n0 : Nat} : ∀ (n : Nat) (x0 : Nat) (x1 : Nat) (x2 : Int32) (x3 : Int32) (x4 : Int32) (σ : Sto), Sim G mX7_agrees 1 0 0 n0 jI 0 0 12 [(0, .ref x0), (1, .ref x1), (2, .int x2), (3, .int x3), (4, .int x4)] [] σ (fX7_agrees_b12 n x0 x1 x2 x3 x4 σ) := by
  intro n
  induction n with
  | zero => intros; rw [fX7_agrees_b12]; exact hj_none
  | succ n ih =>
    intro x0 x1 x2 x3 x4 σ
    rw [fX7_agrees_b12]
    refine hj_iload 4 dX7_agrees_12 rfl ?_
    refine hj_if_lt 117 dX7_agrees_14 (by decide) (fun _ => ?_) (fun _ => ?_)
    · refine hj_aload_n 0 dX7_agrees_117 rfl ?_
      refine hj_getI flX7_9 dX7_agrees_118 (fun t2 _ => ?_)
      exact hj_rZ dX7_agrees_121 rfl rfl (Nat.le_refl _)
    · refine hj_aload_n 1 dX7_agrees_17 rfl ?_
      refine hj_aload_n 0 dX7_agrees_18 rfl ?_
      refine hj_getR flX7_19 dX7_agrees_19 (fun t3 _ => ?_)
      refine hj_iload 4 dX7_agrees_22 rfl ?_
      refine hj_iald dX7_agrees_24 (fun t4 _ => ?_)
      refine hj_iald dX7_agrees_25 (fun t5 _ => ?_)
      refine hj_istore (lv' := [(0, .ref x0), (1, .ref x1), (2, .int x2), (3, .int x3), (4, .int x4), (5, .int t5)]) dX7_agrees_26 (by decide) [1, 2, 3, 4, 5, 0] rfl ?_
      refine hj_iload_n 2 dX7_agrees_28 rfl ?_
      refine hj_iload 5 dX7_agrees_29 rfl ?_
      refine hj_aload_n 0 dX7_agrees_31 rfl ?_
      refine hj_getR flX7_26 dX7_agrees_32 (fun t6 _ => ?_)
      refine hj_iload 4 dX7_agrees_35 rfl ?_
      refine hj_iald dX7_agrees_37 (fun t7 _ => ?_)
      refine hj_iadd dX7_agrees_38 ?_
      refine hj_iadd dX7_agrees_39 ?_
      refine hj_ltI (fun v8 _ => ?_)
      refine hj_istore_n (lv' := [(0, .ref x0), (1, .ref x1), (2, .int v8), (3, .int x3), (4, .int x4), (5, .int t5)]) dX7_agrees_40 (by decide) [1, 2, 0, 3, 4, 5] rfl ?_
      refine hj_iload_n 3 dX7_agrees_41 rfl ?_
      refine hj_iload 5 dX7_agrees_42 rfl ?_
      refine hj_aload_n 0 dX7_agrees_44 rfl ?_
      refine hj_getR flX7_23 dX7_agrees_45 (fun t9 _ => ?_)
      refine hj_iload 4 dX7_agrees_48 rfl ?_
      refine hj_iald dX7_agrees_50 (fun t10 _ => ?_)
      refine hj_imul dX7_agrees_51 ?_
      refine hj_aload_n 0 dX7_agrees_52 rfl ?_
      refine hj_getR flX7_29 dX7_agrees_53 (fun t11 _ => ?_)
      refine hj_iload 4 dX7_agrees_56 rfl ?_
      refine hj_iald dX7_agrees_58 (fun t12 _ => ?_)
      refine hj_iadd dX7_agrees_59 ?_
      refine hj_iadd dX7_agrees_60 ?_
      refine hj_ltI (fun v13 _ => ?_)
      refine hj_istore_n (lv' := [(0, .ref x0), (1, .ref x1), (2, .int v8), (3, .int v13), (4, .int x4), (5, .int t5)]) dX7_agrees_61 (by decide) [1, 2, 3, 0, 4, 5] rfl ?_
      refine hj_aload_n 0 dX7_agrees_62 rfl ?_
      refine hj_getR flX7_38 dX7_agrees_63 (fun t14 _ => ?_)
      refine hj_iload 4 dX7_agrees_66 rfl ?_
      refine hj_zald dX7_agrees_68 (fun t15 _ => ?_)
      refine hj_if_ne 111 dX7_agrees_69 (by decide) (fun _ => ?_) (fun _ => ?_)
      · refine hj_loc (lv' := [(0, .ref x0), (1, .ref x1), (2, .int v8), (3, .int v13), (4, .int x4)]) [0, 1, 2, 3, 4] rfl ?_
        exact sX7_agrees_b111 ih _ _ _ _ _ _
      · refine hj_iload_n 3 dX7_agrees_72 rfl ?_
        refine hj_aload_n 0 dX7_agrees_73 rfl ?_
        refine hj_getR flX7_32 dX7_agrees_74 (fun t16 _ => ?_)
        refine hj_iload 4 dX7_agrees_77 rfl ?_
        refine hj_iald dX7_agrees_79 (fun t17 _ => ?_)
        refine hj_iload_n 2 dX7_agrees_80 rfl ?_
        refine hj_imul dX7_agrees_81 ?_
        refine hj_icmp_lt 98 dX7_agrees_82 (by decide) (fun _ => ?_) (fun _ => ?_)
        · refine hj_loc (lv' := [(0, .ref x0)]) [0] rfl ?_
          exact sX7_agrees_b98 _ _
        · refine hj_iload_n 3 dX7_agrees_85 rfl ?_
          refine hj_aload_n 0 dX7_agrees_86 rfl ?_
          refine hj_getR flX7_35 dX7_agrees_87 (fun t18 _ => ?_)
          refine hj_iload 4 dX7_agrees_90 rfl ?_
          refine hj_iald dX7_agrees_92 (fun t19 _ => ?_)
          refine hj_iload_n 2 dX7_agrees_93 rfl ?_
          refine hj_imul dX7_agrees_94 ?_
          refine hj_icmp_le 111 dX7_agrees_95 (by decide) (fun _ => ?_) (fun _ => ?_)
          · refine hj_loc (lv' := [(0, .ref x0), (1, .ref x1), (2, .int v8), (3, .int v13), (4, .int x4)]) [0, 1, 2, 3, 4] rfl ?_
            exact sX7_agrees_b111 ih _ _ _ _ _ _
          · refine hj_loc (lv' := [(0, .ref x0)]) [0] rfl ?_
            exact sX7_agrees_b98 _ _
def fX7_agrees (a0 : Nat) (a1 : Nat) (σ : Sto) : Option (Int32 × Sto) := ck σ 7 a0 ((gI σ 7 a0 1).bind fun t20 => (lt ((t20 - ((1 : Int32)))) fun v21 => (fX7_agrees_b12 FU a0 a1 ((0 : Int32)) ((0 : Int32)) v21 σ)))
set_option maxHeartbeats 2000000 in
theorem kX7_agrees (G : GP) (a0 : Nat) (a1 : Nat) (σ : Sto) : Me G mX7_agrees 1 0 0 jI [.ref a0, .ref a1] σ (fX7_agrees a0 a1 σ) := by
  refine hs_me (lv := [(0, .ref a0), (1, .ref a1)]) (plainFor_of_name (by decide +kernel)) (Nat.le_of_ble_eq_true rfl) rfl ?_
  unfold fX7_agrees
  refine hj_ck ?_
  refine hj_iconst (0 : Int32) dX7_agrees_0 (by decide) ?_
  refine hj_istore_n (lv' := [(0, .ref a0), (1, .ref a1), (2, .int (0 : Int32))]) dX7_agrees_1 (by decide) [1, 2, 0] rfl ?_
  refine hj_iconst (0 : Int32) dX7_agrees_2 (by decide) ?_
  refine hj_istore_n (lv' := [(0, .ref a0), (1, .ref a1), (2, .int (0 : Int32)), (3, .int (0 : Int32))]) dX7_agrees_3 (by decide) [1, 2, 3, 0] rfl ?_
  refine hj_aload_n 0 dX7_agrees_4 rfl ?_
  refine hj_getI flX7_15 dX7_agrees_5 (fun t20 _ => ?_)
  refine hj_iconst (1 : Int32) dX7_agrees_8 (by decide) ?_
  refine hj_isub dX7_agrees_9 ?_
  refine hj_ltI (fun v21 _ => ?_)
  refine hj_istore (lv' := [(0, .ref a0), (1, .ref a1), (2, .int (0 : Int32)), (3, .int (0 : Int32)), (4, .int v21)]) dX7_agrees_10 (by decide) [1, 2, 3, 4, 0] rfl ?_
  refine hj_loc (lv' := [(0, .ref a0), (1, .ref a1), (2, .int (0 : Int32)), (3, .int (0 : Int32)), (4, .int v21)]) [0, 1, 2, 3, 4] rfl ?_
  exact sX7_agrees_b12 _ _ _ _ _ _ _
theorem cX7_agreesk {a0 : Nat} {a1 : Nat} {σ : Sto} {r : Int32 × Sto} (h : fX7_agrees a0 a1 σ = some r) : ∃ fs, hs_o σ 7 a0 = some fs := (ck_of h).1
def fX1_agree_b2 : Nat → Nat → Int32 → Int32 → Sto → Option (Int32 × Sto)
  | 0, _, _, _, _ => none
  | n + 1, x0, x1, x2, σ => (if x1 ≤ x2 then (some ((1 : Int32), σ)) else (if (6 : Int32) ≤ x2 then (some ((1 : Int32), σ)) else ((gR σ 1 x0 1).bind fun t1 => ((aR σ 7 t1 x2).bind fun t2 => ((gR σ 1 x0 2).bind fun t3 => (cb (fX7_agrees t2 t3 σ) fun r5 σ4 => (if r5 = 0 then (some ((0 : Int32), σ4)) else (fX1_agree_b2 n x0 x1 (x2 + (1 : Int32)) σ4))))))))
set_option maxHeartbeats 2000000 in
theorem sX1_agree_b2 {G : GP} {n0 : Nat} : ∀ (n : Nat) (x0 : Nat) (x1 : Int32) (x2 : Int32) (σ : Sto), Sim G mX1_agree 2 0 0 n0 jI 0 0 2 [(0, .ref x0), (1, .int x1), (2, .int x2)] [] σ (fX1_agree_b2 n x0 x1 x2 σ) := by
  intro n
  induction n with
  | zero => intros; rw [fX1_agree_b2]; exact hj_none
  | succ n ih =>
    intro x0 x1 x2 σ
    rw [fX1_agree_b2]
    refine hj_iload_n 2 dX1_agree_2 rfl ?_
    refine hj_iload_n 1 dX1_agree_3 rfl ?_
    refine hj_icmp_ge 37 dX1_agree_4 (by decide) (fun _ => ?_) (fun _ => ?_)
    · refine hj_iconst (1 : Int32) dX1_agree_37 (by decide) ?_
      exact hj_zret dX1_agree_38 rfl (by decide) rfl (Nat.le_refl _)
    · refine hj_iload_n 2 dX1_agree_7 rfl ?_
      refine hj_bipush (6 : Int32) dX1_agree_8 (by decide) ?_
      refine hj_icmp_ge 37 dX1_agree_10 (by decide) (fun _ => ?_) (fun _ => ?_)
      · refine hj_iconst (1 : Int32) dX1_agree_37 (by decide) ?_
        exact hj_zret dX1_agree_38 rfl (by decide) rfl (Nat.le_refl _)
      · refine hj_aload_n 0 dX1_agree_13 rfl ?_
        refine hj_getR flX1_17 dX1_agree_14 (fun t1 _ => ?_)
        refine hj_iload_n 2 dX1_agree_17 rfl ?_
        refine hj_aald7 dX1_agree_18 (fun t2 _ => ?_)
        refine hj_aload_n 0 dX1_agree_19 rfl ?_
        refine hj_getR flX1_21 dX1_agree_20 (fun t3 _ => ?_)
        refine hj_callV (ci := 7) (M' := mX7_agrees) (h' := 1) (As := [.ref t3]) mfX7_agrees mvX7_agrees ⟨_, _, rfl⟩ mlX1_68 dX1_agree_23 (kX7_agrees G _ _ _) (fun _ hr => cX7_agreesk hr) ⟨Nat.le_of_ble_eq_true rfl, Nat.le_of_ble_eq_true rfl⟩ ⟨Nat.le_refl _, Nat.le_refl _⟩ rfl (Nat.le_of_ble_eq_true rfl) (fun r5 σ4 _ => ?_)
        refine hj_if_ne 31 dX1_agree_26 (by decide) (fun _ => ?_) (fun _ => ?_)
        · refine hj_iinc (lv' := [(0, .ref x0), (1, .int x1), (2, .int (x2 + (1 : Int32)))]) 2 (1 : Int32) dX1_agree_31 rfl (by decide) (by decide) [1, 2, 0] rfl ?_
          refine hj_goto 2 dX1_agree_34 (by decide) ?_
          refine hj_loc (lv' := [(0, .ref x0), (1, .int x1), (2, .int (x2 + (1 : Int32)))]) [0, 1, 2] rfl ?_
          exact ih _ _ _ _
        · refine hj_iconst (0 : Int32) dX1_agree_29 (by decide) ?_
          exact hj_zret dX1_agree_30 rfl (by decide) rfl (Nat.le_refl _)
def fX1_agree (a0 : Nat) (a1 : Int32) (σ : Sto) : Option (Int32 × Sto) := ck σ 1 a0 (fX1_agree_b2 FU a0 a1 ((0 : Int32)) σ)
set_option maxHeartbeats 2000000 in
theorem kX1_agree (G : GP) (a0 : Nat) (a1 : Int32) (σ : Sto) : Me G mX1_agree 2 0 0 jI [.ref a0, .int a1] σ (fX1_agree a0 a1 σ) := by
  refine hs_me (lv := [(0, .ref a0), (1, .int a1)]) (plainFor_of_name (by decide +kernel)) (Nat.le_of_ble_eq_true rfl) rfl ?_
  unfold fX1_agree
  refine hj_ck ?_
  refine hj_iconst (0 : Int32) dX1_agree_0 (by decide) ?_
  refine hj_istore_n (lv' := [(0, .ref a0), (1, .int a1), (2, .int (0 : Int32))]) dX1_agree_1 (by decide) [1, 2, 0] rfl ?_
  refine hj_loc (lv' := [(0, .ref a0), (1, .int a1), (2, .int (0 : Int32))]) [0, 1, 2] rfl ?_
  exact sX1_agree_b2 _ _ _ _ _
theorem cX1_agreek {a0 : Nat} {a1 : Int32} {σ : Sto} {r : Int32 × Sto} (h : fX1_agree a0 a1 σ = some r) : ∃ fs, hs_o σ 1 a0 = some fs := (ck_of h).1
def fX1_fillRow_b5 : Nat → Nat → Int32 → Int32 → Int32 → Sto → Option (Unit × Sto)
  | 0, _, _, _, _, _ => none
  | n + 1, x0, x2, x3, x4, σ => ((gI σ 1 x0 4).bind fun t1 => (if t1 ≤ x4 then (some ((), σ)) else (if x2 ≤ 0 then (some ((), σ)) else ((gR σ 1 x0 2).bind fun t2 => ((gR σ 1 x0 3).bind fun t3 => ((aI σ 2 t3 x4).bind fun t4 => (if x2 = 0 then none else ((sI σ 2 t2 t4 ((((1 : Int32)) + ((hs_rem x3 x2))))).bind fun σ5 => (if x2 = 0 then none else (lt ((x3 / x2)) fun v6 => (fX1_fillRow_b5 n x0 x2 v6 (x4 + (1 : Int32)) σ5)))))))))))
set_option maxHeartbeats 2000000 in
theorem sX1_fillRow_b5 {G : GP} {n0 : Nat} : ∀ (n : Nat) (x0 : Nat) (x2 : Int32) (x3 : Int32) (x4 : Int32) (σ : Sto), Sim G mX1_fillRow 1 0 0 n0 jV 0 0 5 [(0, .ref x0), (2, .int x2), (3, .int x3), (4, .int x4)] [] σ (fX1_fillRow_b5 n x0 x2 x3 x4 σ) := by
  intro n
  induction n with
  | zero => intros; rw [fX1_fillRow_b5]; exact hj_none
  | succ n ih =>
    intro x0 x2 x3 x4 σ
    rw [fX1_fillRow_b5]
    refine hj_iload 3 dX1_fillRow_5 rfl ?_
    refine hj_aload_n 0 dX1_fillRow_7 rfl ?_
    refine hj_getI flX1_28 dX1_fillRow_8 (fun t1 _ => ?_)
    refine hj_icmp_ge 45 dX1_fillRow_11 (by decide) (fun _ => ?_) (fun _ => ?_)
    · exact hj_vret dX1_fillRow_45 rfl rfl (Nat.le_refl _)
    · refine hj_iload_n 1 dX1_fillRow_14 rfl ?_
      refine hj_if_le 45 dX1_fillRow_15 (by decide) (fun _ => ?_) (fun _ => ?_)
      · exact hj_vret dX1_fillRow_45 rfl rfl (Nat.le_refl _)
      · refine hj_aload_n 0 dX1_fillRow_18 rfl ?_
        refine hj_getR flX1_21 dX1_fillRow_19 (fun t2 _ => ?_)
        refine hj_aload_n 0 dX1_fillRow_22 rfl ?_
        refine hj_getR flX1_25 dX1_fillRow_23 (fun t3 _ => ?_)
        refine hj_iload 3 dX1_fillRow_26 rfl ?_
        refine hj_iald dX1_fillRow_28 (fun t4 _ => ?_)
        refine hj_iconst (1 : Int32) dX1_fillRow_29 (by decide) ?_
        refine hj_iload_n 2 dX1_fillRow_30 rfl ?_
        refine hj_iload_n 1 dX1_fillRow_31 rfl ?_
        refine hj_irem dX1_fillRow_32 (fun _ => ?_)
        refine hj_iadd dX1_fillRow_33 ?_
        refine hj_iast dX1_fillRow_34 (fun σ5 _ => ?_)
        refine hj_iload_n 2 dX1_fillRow_35 rfl ?_
        refine hj_iload_n 1 dX1_fillRow_36 rfl ?_
        refine hj_idiv dX1_fillRow_37 (fun _ => ?_)
        refine hj_ltI (fun v6 _ => ?_)
        refine hj_istore_n (lv' := [(0, .ref x0), (2, .int x2), (3, .int v6), (4, .int x4)]) dX1_fillRow_38 (by decide) [1, 2, 0, 3] rfl ?_
        refine hj_iinc (lv' := [(0, .ref x0), (2, .int x2), (3, .int v6), (4, .int (x4 + (1 : Int32)))]) 3 (1 : Int32) dX1_fillRow_39 rfl (by decide) (by decide) [1, 2, 3, 0] rfl ?_
        refine hj_goto 5 dX1_fillRow_42 (by decide) ?_
        refine hj_loc (lv' := [(0, .ref x0), (2, .int x2), (3, .int v6), (4, .int (x4 + (1 : Int32)))]) [0, 1, 2, 3] rfl ?_
        exact ih _ _ _ _ _
def fX1_fillRow (a0 : Nat) (a1 : Int32) (a2 : Int32) (σ : Sto) : Option (Unit × Sto) := ck σ 1 a0 (fX1_fillRow_b5 FU a0 a2 a1 ((0 : Int32)) σ)
set_option maxHeartbeats 2000000 in
theorem kX1_fillRow (G : GP) (a0 : Nat) (a1 : Int32) (a2 : Int32) (σ : Sto) : Me G mX1_fillRow 1 0 0 jV [.ref a0, .int a1, .int a2] σ (fX1_fillRow a0 a1 a2 σ) := by
  refine hs_me (lv := [(0, .ref a0), (1, .int a1), (2, .int a2)]) (plainFor_of_name (by decide +kernel)) (Nat.le_of_ble_eq_true rfl) rfl ?_
  unfold fX1_fillRow
  refine hj_ck ?_
  refine hj_iload_n 1 dX1_fillRow_0 rfl ?_
  refine hj_istore_n (lv' := [(0, .ref a0), (1, .int a1), (2, .int a2), (3, .int a1)]) dX1_fillRow_1 (by decide) [1, 2, 3, 0] rfl ?_
  refine hj_iconst (0 : Int32) dX1_fillRow_2 (by decide) ?_
  refine hj_istore (lv' := [(0, .ref a0), (1, .int a1), (2, .int a2), (3, .int a1), (4, .int (0 : Int32))]) dX1_fillRow_3 (by decide) [1, 2, 3, 4, 0] rfl ?_
  refine hj_loc (lv' := [(0, .ref a0), (2, .int a2), (3, .int a1), (4, .int (0 : Int32))]) [0, 2, 3, 4] rfl ?_
  exact sX1_fillRow_b5 _ _ _ _ _ _
theorem cX1_fillRowk {a0 : Nat} {a1 : Int32} {a2 : Int32} {σ : Sto} {r : Unit × Sto} (h : fX1_fillRow a0 a1 a2 σ = some r) : ∃ fs, hs_o σ 1 a0 = some fs := (ck_of h).1
def fX1_isAsked_b54 (K2 : Nat → Int32 → Int32 → Int32 → Sto → Option (Int32 × Sto)) (x0 : Nat) (x1 : Int32) (x2 : Int32) (x3 : Int32) (σ : Sto) : Option (Int32 × Sto) := (K2 x0 x1 x2 (x3 + (1 : Int32)) σ)
set_option maxHeartbeats 2000000 in
theorem sX1_isAsked_b54 {G : GP} {n0 : Nat} {K2 : Nat → Int32 → Int32 → Int32 → Sto → Option (Int32 × Sto)} (hK2 : ∀ (x0 : Nat) (x1 : Int32) (x2 : Int32) (x3 : Int32) (σ : Sto), Sim G mX1_isAsked 1 0 0 n0 jI 0 0 2 [(0, .ref x0), (1, .int x1), (2, .int x2), (3, .int x3)] [] σ (K2 x0 x1 x2 x3 σ)) : ∀ (x0 : Nat) (x1 : Int32) (x2 : Int32) (x3 : Int32) (σ : Sto), Sim G mX1_isAsked 1 0 0 n0 jI 0 0 54 [(0, .ref x0), (1, .int x1), (2, .int x2), (3, .int x3)] [] σ (fX1_isAsked_b54 K2 x0 x1 x2 x3 σ) := by
  intro x0 x1 x2 x3 σ
  unfold fX1_isAsked_b54
  refine hj_iinc (lv' := [(0, .ref x0), (1, .int x1), (2, .int x2), (3, .int (x3 + (1 : Int32)))]) 3 (1 : Int32) dX1_isAsked_54 rfl (by decide) (by decide) [1, 2, 3, 0] rfl ?_
  refine hj_goto 2 dX1_isAsked_57 (by decide) ?_
  refine hj_loc (lv' := [(0, .ref x0), (1, .int x1), (2, .int x2), (3, .int (x3 + (1 : Int32)))]) [0, 1, 2, 3] rfl ?_
  exact hK2 _ _ _ _ _
def fX1_isAsked_b16 (K2 : Nat → Int32 → Int32 → Int32 → Sto → Option (Int32 × Sto)) : Nat → Nat → Int32 → Int32 → Int32 → Int32 → Sto → Option (Int32 × Sto)
  | 0, _, _, _, _, _, _ => none
  | n + 1, x0, x1, x2, x3, x4, σ => ((gR σ 1 x0 1).bind fun t1 => ((aR σ 7 t1 x3).bind fun t2 => ((gI σ 7 t2 1).bind fun t3 => (if t3 ≤ x4 then (fX1_isAsked_b54 K2 x0 x1 x2 x3 σ) else ((gR σ 1 x0 1).bind fun t4 => ((aR σ 7 t4 x3).bind fun t5 => ((gR σ 7 t5 2).bind fun t6 => ((aI σ 2 t6 x4).bind fun t7 => (if t7 = x1 then (some ((1 : Int32), σ)) else (fX1_isAsked_b16 K2 n x0 x1 x2 x3 (x4 + (1 : Int32)) σ))))))))))
set_option maxHeartbeats 2000000 in
theorem sX1_isAsked_b16 {G : GP} {n0 : Nat} {K2 : Nat → Int32 → Int32 → Int32 → Sto → Option (Int32 × Sto)} (hK2 : ∀ (x0 : Nat) (x1 : Int32) (x2 : Int32) (x3 : Int32) (σ : Sto), Sim G mX1_isAsked 1 0 0 n0 jI 0 0 2 [(0, .ref x0), (1, .int x1), (2, .int x2), (3, .int x3)] [] σ (K2 x0 x1 x2 x3 σ)) : ∀ (n : Nat) (x0 : Nat) (x1 : Int32) (x2 : Int32) (x3 : Int32) (x4 : Int32) (σ : Sto), Sim G mX1_isAsked 1 0 0 n0 jI 0 0 16 [(0, .ref x0), (1, .int x1), (2, .int x2), (3, .int x3), (4, .int x4)] [] σ (fX1_isAsked_b16 K2 n x0 x1 x2 x3 x4 σ) := by
  intro n
  induction n with
  | zero => intros; rw [fX1_isAsked_b16]; exact hj_none
  | succ n ih =>
    intro x0 x1 x2 x3 x4 σ
    rw [fX1_isAsked_b16]
    refine hj_iload 4 dX1_isAsked_16 rfl ?_
    refine hj_aload_n 0 dX1_isAsked_18 rfl ?_
    refine hj_getR flX1_17 dX1_isAsked_19 (fun t1 _ => ?_)
    refine hj_iload_n 3 dX1_isAsked_22 rfl ?_
    refine hj_aald7 dX1_isAsked_23 (fun t2 _ => ?_)
    refine hj_getI flX1_64 dX1_isAsked_24 (fun t3 _ => ?_)
    refine hj_icmp_ge 54 dX1_isAsked_27 (by decide) (fun _ => ?_) (fun _ => ?_)
    · refine hj_loc (lv' := [(0, .ref x0), (1, .int x1), (2, .int x2), (3, .int x3)]) [0, 1, 2, 3] rfl ?_
      exact sX1_isAsked_b54 hK2 _ _ _ _ _
    · refine hj_aload_n 0 dX1_isAsked_30 rfl ?_
      refine hj_getR flX1_17 dX1_isAsked_31 (fun t4 _ => ?_)
      refine hj_iload_n 3 dX1_isAsked_34 rfl ?_
      refine hj_aald7 dX1_isAsked_35 (fun t5 _ => ?_)
      refine hj_getR flX1_65 dX1_isAsked_36 (fun t6 _ => ?_)
      refine hj_iload 4 dX1_isAsked_39 rfl ?_
      refine hj_iald dX1_isAsked_41 (fun t7 _ => ?_)
      refine hj_iload_n 1 dX1_isAsked_42 rfl ?_
      refine hj_icmp_ne 48 dX1_isAsked_43 (by decide) (fun _ => ?_) (fun _ => ?_)
      · refine hj_iinc (lv' := [(0, .ref x0), (1, .int x1), (2, .int x2), (3, .int x3), (4, .int (x4 + (1 : Int32)))]) 4 (1 : Int32) dX1_isAsked_48 rfl (by decide) (by decide) [1, 2, 3, 4, 0] rfl ?_
        refine hj_goto 16 dX1_isAsked_51 (by decide) ?_
        refine hj_loc (lv' := [(0, .ref x0), (1, .int x1), (2, .int x2), (3, .int x3), (4, .int (x4 + (1 : Int32)))]) [0, 1, 2, 3, 4] rfl ?_
        exact ih _ _ _ _ _ _
      · refine hj_iconst (1 : Int32) dX1_isAsked_46 (by decide) ?_
        exact hj_zret dX1_isAsked_47 rfl (by decide) rfl (Nat.le_refl _)
def fX1_isAsked_b2 : Nat → Nat → Int32 → Int32 → Int32 → Sto → Option (Int32 × Sto)
  | 0, _, _, _, _, _ => none
  | n + 1, x0, x1, x2, x3, σ => (if x2 ≤ x3 then (some ((0 : Int32), σ)) else (if (6 : Int32) ≤ x3 then (some ((0 : Int32), σ)) else (fX1_isAsked_b16 (fX1_isAsked_b2 n) FU x0 x1 x2 x3 ((0 : Int32)) σ)))
set_option maxHeartbeats 2000000 in
theorem sX1_isAsked_b2 {G : GP} {n0 : Nat} : ∀ (n : Nat) (x0 : Nat) (x1 : Int32) (x2 : Int32) (x3 : Int32) (σ : Sto), Sim G mX1_isAsked 1 0 0 n0 jI 0 0 2 [(0, .ref x0), (1, .int x1), (2, .int x2), (3, .int x3)] [] σ (fX1_isAsked_b2 n x0 x1 x2 x3 σ) := by
  intro n
  induction n with
  | zero => intros; rw [fX1_isAsked_b2]; exact hj_none
  | succ n ih =>
    intro x0 x1 x2 x3 σ
    rw [fX1_isAsked_b2]
    refine hj_iload_n 3 dX1_isAsked_2 rfl ?_
    refine hj_iload_n 2 dX1_isAsked_3 rfl ?_
    refine hj_icmp_ge 60 dX1_isAsked_4 (by decide) (fun _ => ?_) (fun _ => ?_)
    · refine hj_iconst (0 : Int32) dX1_isAsked_60 (by decide) ?_
      exact hj_zret dX1_isAsked_61 rfl (by decide) rfl (Nat.le_refl _)
    · refine hj_iload_n 3 dX1_isAsked_7 rfl ?_
      refine hj_bipush (6 : Int32) dX1_isAsked_8 (by decide) ?_
      refine hj_icmp_ge 60 dX1_isAsked_10 (by decide) (fun _ => ?_) (fun _ => ?_)
      · refine hj_iconst (0 : Int32) dX1_isAsked_60 (by decide) ?_
        exact hj_zret dX1_isAsked_61 rfl (by decide) rfl (Nat.le_refl _)
      · refine hj_iconst (0 : Int32) dX1_isAsked_13 (by decide) ?_
        refine hj_istore (lv' := [(0, .ref x0), (1, .int x1), (2, .int x2), (3, .int x3), (4, .int (0 : Int32))]) dX1_isAsked_14 (by decide) [1, 2, 3, 4, 0] rfl ?_
        refine hj_loc (lv' := [(0, .ref x0), (1, .int x1), (2, .int x2), (3, .int x3), (4, .int (0 : Int32))]) [0, 1, 2, 3, 4] rfl ?_
        exact sX1_isAsked_b16 ih _ _ _ _ _ _ _
def fX1_isAsked (a0 : Nat) (a1 : Int32) (a2 : Int32) (σ : Sto) : Option (Int32 × Sto) := ck σ 1 a0 (fX1_isAsked_b2 FU a0 a1 a2 ((0 : Int32)) σ)
set_option maxHeartbeats 2000000 in
theorem kX1_isAsked (G : GP) (a0 : Nat) (a1 : Int32) (a2 : Int32) (σ : Sto) : Me G mX1_isAsked 1 0 0 jI [.ref a0, .int a1, .int a2] σ (fX1_isAsked a0 a1 a2 σ) := by
  refine hs_me (lv := [(0, .ref a0), (1, .int a1), (2, .int a2)]) (plainFor_of_name (by decide +kernel)) (Nat.le_of_ble_eq_true rfl) rfl ?_
  unfold fX1_isAsked
  refine hj_ck ?_
  refine hj_iconst (0 : Int32) dX1_isAsked_0 (by decide) ?_
  refine hj_istore_n (lv' := [(0, .ref a0), (1, .int a1), (2, .int a2), (3, .int (0 : Int32))]) dX1_isAsked_1 (by decide) [1, 2, 3, 0] rfl ?_
  refine hj_loc (lv' := [(0, .ref a0), (1, .int a1), (2, .int a2), (3, .int (0 : Int32))]) [0, 1, 2, 3] rfl ?_
  exact sX1_isAsked_b2 _ _ _ _ _ _
theorem cX1_isAskedk {a0 : Nat} {a1 : Int32} {a2 : Int32} {σ : Sto} {r : Int32 × Sto} (h : fX1_isAsked a0 a1 a2 σ = some r) : ∃ fs, hs_o σ 1 a0 = some fs := (ck_of h).1
def fX1_prepare_b96 (K11 : Nat → Int32 → Int32 → Int32 → Int32 → Int32 → Sto → Option (Int32 × Sto)) (x0 : Nat) (x1 : Int32) (x2 : Int32) (x3 : Int32) (x4 : Int32) (x5 : Int32) (σ : Sto) : Option (Int32 × Sto) := (K11 x0 x1 x2 x3 x4 (x5 + (1 : Int32)) σ)
set_option maxHeartbeats 2000000 in
theorem sX1_prepare_b96 {G : GP} {n0 : Nat} {K11 : Nat → Int32 → Int32 → Int32 → Int32 → Int32 → Sto → Option (Int32 × Sto)} (hK11 : ∀ (x0 : Nat) (x1 : Int32) (x2 : Int32) (x3 : Int32) (x4 : Int32) (x5 : Int32) (σ : Sto), Sim G mX1_prepare 2 0 0 n0 jI 0 0 11 [(0, .ref x0), (1, .int x1), (2, .int x2), (3, .int x3), (4, .int x4), (5, .int x5)] [] σ (K11 x0 x1 x2 x3 x4 x5 σ)) : ∀ (x0 : Nat) (x1 : Int32) (x2 : Int32) (x3 : Int32) (x4 : Int32) (x5 : Int32) (σ : Sto), Sim G mX1_prepare 2 0 0 n0 jI 0 0 96 [(0, .ref x0), (1, .int x1), (2, .int x2), (3, .int x3), (4, .int x4), (5, .int x5)] [] σ (fX1_prepare_b96 K11 x0 x1 x2 x3 x4 x5 σ) := by
  intro x0 x1 x2 x3 x4 x5 σ
  unfold fX1_prepare_b96
  refine hj_iinc (lv' := [(0, .ref x0), (1, .int x1), (2, .int x2), (3, .int x3), (4, .int x4), (5, .int (x5 + (1 : Int32)))]) 5 (1 : Int32) dX1_prepare_96 rfl (by decide) (by decide) [1, 2, 3, 4, 5, 0] rfl ?_
  refine hj_goto 11 dX1_prepare_99 (by decide) ?_
  refine hj_loc (lv' := [(0, .ref x0), (1, .int x1), (2, .int x2), (3, .int x3), (4, .int x4), (5, .int (x5 + (1 : Int32)))]) [0, 1, 2, 3, 4, 5] rfl ?_
  exact hK11 _ _ _ _ _ _ _
def fX1_prepare_b11 : Nat → Nat → Int32 → Int32 → Int32 → Int32 → Int32 → Sto → Option (Int32 × Sto)
  | 0, _, _, _, _, _, _, _ => none
  | n + 1, x0, x1, x2, x3, x4, x5, σ => (if x1 ≤ x5 then (some (x4, σ)) else (if (6 : Int32) ≤ x5 then (some (x4, σ)) else (cb (fX1_isAsked x0 x5 x3 σ) fun r2 σ1 => (if r2 = 0 then (lt ((x4 * x2)) fun v3 => ((gR σ1 1 x0 6).bind fun t4 => ((sI σ1 2 t4 x5 ((1 : Int32))).bind fun σ5 => ((gR σ5 1 x0 7).bind fun t6 => ((sI σ5 2 t6 x5 x2).bind fun σ7 => (fX1_prepare_b96 (fX1_prepare_b11 n) x0 x1 x2 x3 v3 x5 σ7)))))) else ((gR σ1 1 x0 3).bind fun t8 => ((gI σ1 1 x0 4).bind fun t9 => ((sI σ1 2 t8 t9 x5).bind fun σ10 => ((gI σ10 1 x0 4).bind fun t11 => ((pV σ10 1 x0 4 (.int ((t11 + ((1 : Int32)))))).bind fun σ12 => ((gR σ12 1 x0 6).bind fun t13 => ((sI σ12 2 t13 x5 x2).bind fun σ14 => ((gR σ14 1 x0 7).bind fun t15 => ((sI σ14 2 t15 x5 ((1 : Int32))).bind fun σ16 => (fX1_prepare_b96 (fX1_prepare_b11 n) x0 x1 x2 x3 x4 x5 σ16))))))))))))))
set_option maxHeartbeats 2000000 in
theorem sX1_prepare_b11 {G : GP} {n0 : Nat} : ∀ (n : Nat) (x0 : Nat) (x1 : Int32) (x2 : Int32) (x3 : Int32) (x4 : Int32) (x5 : Int32) (σ : Sto), Sim G mX1_prepare 2 0 0 n0 jI 0 0 11 [(0, .ref x0), (1, .int x1), (2, .int x2), (3, .int x3), (4, .int x4), (5, .int x5)] [] σ (fX1_prepare_b11 n x0 x1 x2 x3 x4 x5 σ) := by
  intro n
  induction n with
  | zero => intros; rw [fX1_prepare_b11]; exact hj_none
  | succ n ih =>
    intro x0 x1 x2 x3 x4 x5 σ
    rw [fX1_prepare_b11]
    refine hj_iload 5 dX1_prepare_11 rfl ?_
    refine hj_iload_n 1 dX1_prepare_13 rfl ?_
    refine hj_icmp_ge 102 dX1_prepare_14 (by decide) (fun _ => ?_) (fun _ => ?_)
    · refine hj_iload 4 dX1_prepare_102 rfl ?_
      exact hj_iret dX1_prepare_104 rfl rfl (Nat.le_refl _)
    · refine hj_iload 5 dX1_prepare_17 rfl ?_
      refine hj_bipush (6 : Int32) dX1_prepare_19 (by decide) ?_
      refine hj_icmp_ge 102 dX1_prepare_21 (by decide) (fun _ => ?_) (fun _ => ?_)
      · refine hj_iload 4 dX1_prepare_102 rfl ?_
        exact hj_iret dX1_prepare_104 rfl rfl (Nat.le_refl _)
      · refine hj_aload_n 0 dX1_prepare_24 rfl ?_
        refine hj_iload 5 dX1_prepare_25 rfl ?_
        refine hj_iload_n 3 dX1_prepare_27 rfl ?_
        refine hj_callV (ci := 1) (M' := mX1_isAsked) (h' := 1) (As := [.int x5, .int x3]) mfX1_isAsked mvX1_isAsked ⟨_, _, rfl⟩ mlX1_60 dX1_prepare_28 (kX1_isAsked G _ _ _ _) (fun _ hr => cX1_isAskedk hr) ⟨Nat.le_of_ble_eq_true rfl, Nat.le_of_ble_eq_true rfl⟩ ⟨Nat.le_refl _, Nat.le_refl _⟩ rfl (Nat.le_of_ble_eq_true rfl) (fun r2 σ1 _ => ?_)
        refine hj_if_eq 74 dX1_prepare_31 (by decide) (fun _ => ?_) (fun _ => ?_)
        · refine hj_iload 4 dX1_prepare_74 rfl ?_
          refine hj_iload_n 2 dX1_prepare_76 rfl ?_
          refine hj_imul dX1_prepare_77 ?_
          refine hj_ltI (fun v3 _ => ?_)
          refine hj_istore (lv' := [(0, .ref x0), (1, .int x1), (2, .int x2), (3, .int x3), (4, .int v3), (5, .int x5)]) dX1_prepare_78 (by decide) [1, 2, 3, 4, 0, 5] rfl ?_
          refine hj_aload_n 0 dX1_prepare_80 rfl ?_
          refine hj_getR flX1_34 dX1_prepare_81 (fun t4 _ => ?_)
          refine hj_iload 5 dX1_prepare_84 rfl ?_
          refine hj_iconst (1 : Int32) dX1_prepare_86 (by decide) ?_
          refine hj_iast dX1_prepare_87 (fun σ5 _ => ?_)
          refine hj_aload_n 0 dX1_prepare_88 rfl ?_
          refine hj_getR flX1_37 dX1_prepare_89 (fun t6 _ => ?_)
          refine hj_iload 5 dX1_prepare_92 rfl ?_
          refine hj_iload_n 2 dX1_prepare_94 rfl ?_
          refine hj_iast dX1_prepare_95 (fun σ7 _ => ?_)
          refine hj_loc (lv' := [(0, .ref x0), (1, .int x1), (2, .int x2), (3, .int x3), (4, .int v3), (5, .int x5)]) [0, 1, 2, 3, 4, 5] rfl ?_
          exact sX1_prepare_b96 ih _ _ _ _ _ _ _
        · refine hj_aload_n 0 dX1_prepare_34 rfl ?_
          refine hj_getR flX1_25 dX1_prepare_35 (fun t8 _ => ?_)
          refine hj_aload_n 0 dX1_prepare_38 rfl ?_
          refine hj_getI flX1_28 dX1_prepare_39 (fun t9 _ => ?_)
          refine hj_iload 5 dX1_prepare_42 rfl ?_
          refine hj_iast dX1_prepare_44 (fun σ10 _ => ?_)
          refine hj_aload_n 0 dX1_prepare_45 rfl ?_
          refine hj_dup dX1_prepare_46 rfl ?_
          refine hj_getI flX1_28 dX1_prepare_47 (fun t11 _ => ?_)
          refine hj_iconst (1 : Int32) dX1_prepare_50 (by decide) ?_
          refine hj_iadd dX1_prepare_51 ?_
          refine hj_put (fpX1_28 _) (fun _ => rfl) (fun _ => rfl) dX1_prepare_52 (fun σ12 _ => ?_)
          refine hj_aload_n 0 dX1_prepare_55 rfl ?_
          refine hj_getR flX1_34 dX1_prepare_56 (fun t13 _ => ?_)
          refine hj_iload 5 dX1_prepare_59 rfl ?_
          refine hj_iload_n 2 dX1_prepare_61 rfl ?_
          refine hj_iast dX1_prepare_62 (fun σ14 _ => ?_)
          refine hj_aload_n 0 dX1_prepare_63 rfl ?_
          refine hj_getR flX1_37 dX1_prepare_64 (fun t15 _ => ?_)
          refine hj_iload 5 dX1_prepare_67 rfl ?_
          refine hj_iconst (1 : Int32) dX1_prepare_69 (by decide) ?_
          refine hj_iast dX1_prepare_70 (fun σ16 _ => ?_)
          refine hj_goto 96 dX1_prepare_71 (by decide) ?_
          refine hj_loc (lv' := [(0, .ref x0), (1, .int x1), (2, .int x2), (3, .int x3), (4, .int x4), (5, .int x5)]) [0, 1, 2, 3, 4, 5] rfl ?_
          exact sX1_prepare_b96 ih _ _ _ _ _ _ _
def fX1_prepare (a0 : Nat) (a1 : Int32) (a2 : Int32) (a3 : Int32) (σ : Sto) : Option (Int32 × Sto) := ck σ 1 a0 ((pV σ 1 a0 4 (.int ((0 : Int32)))).bind fun σ17 => (fX1_prepare_b11 FU a0 a1 a2 a3 ((1 : Int32)) ((0 : Int32)) σ17))
set_option maxHeartbeats 2000000 in
theorem kX1_prepare (G : GP) (a0 : Nat) (a1 : Int32) (a2 : Int32) (a3 : Int32) (σ : Sto) : Me G mX1_prepare 2 0 0 jI [.ref a0, .int a1, .int a2, .int a3] σ (fX1_prepare a0 a1 a2 a3 σ) := by
  refine hs_me (lv := [(0, .ref a0), (1, .int a1), (2, .int a2), (3, .int a3)]) (plainFor_of_name (by decide +kernel)) (Nat.le_of_ble_eq_true rfl) rfl ?_
  unfold fX1_prepare
  refine hj_ck ?_
  refine hj_iconst (1 : Int32) dX1_prepare_0 (by decide) ?_
  refine hj_istore (lv' := [(0, .ref a0), (1, .int a1), (2, .int a2), (3, .int a3), (4, .int (1 : Int32))]) dX1_prepare_1 (by decide) [1, 2, 3, 4, 0] rfl ?_
  refine hj_aload_n 0 dX1_prepare_3 rfl ?_
  refine hj_iconst (0 : Int32) dX1_prepare_4 (by decide) ?_
  refine hj_put (fpX1_28 _) (fun _ => rfl) (fun _ => rfl) dX1_prepare_5 (fun σ17 _ => ?_)
  refine hj_iconst (0 : Int32) dX1_prepare_8 (by decide) ?_
  refine hj_istore (lv' := [(0, .ref a0), (1, .int a1), (2, .int a2), (3, .int a3), (4, .int (1 : Int32)), (5, .int (0 : Int32))]) dX1_prepare_9 (by decide) [1, 2, 3, 4, 5, 0] rfl ?_
  refine hj_loc (lv' := [(0, .ref a0), (1, .int a1), (2, .int a2), (3, .int a3), (4, .int (1 : Int32)), (5, .int (0 : Int32))]) [0, 1, 2, 3, 4, 5] rfl ?_
  exact sX1_prepare_b11 _ _ _ _ _ _ _ _
theorem cX1_preparek {a0 : Nat} {a1 : Int32} {a2 : Int32} {a3 : Int32} {σ : Sto} {r : Int32 × Sto} (h : fX1_prepare a0 a1 a2 a3 σ = some r) : ∃ fs, hs_o σ 1 a0 = some fs := (ck_of h).1
def fX1_widen_b2 : Nat → Nat → Int32 → Sto → Option (Unit × Sto)
  | 0, _, _, _ => none
  | n + 1, x0, x1, σ => ((gI σ 1 x0 4).bind fun t1 => (if t1 ≤ x1 then (some ((), σ)) else ((gR σ 1 x0 3).bind fun t2 => ((aI σ 2 t2 x1).bind fun t3 => ((gR σ 1 x0 6).bind fun t4 => ((gR σ 1 x0 6).bind fun t5 => ((aI σ 2 t5 t3).bind fun t6 => ((gR σ 1 x0 2).bind fun t7 => ((aI σ 2 t7 t3).bind fun t8 => (cb (fJ9_min_7cf53 t6 t8 σ) fun r10 σ9 => ((sI σ9 2 t4 t3 r10).bind fun σ11 => ((gR σ11 1 x0 7).bind fun t12 => ((gR σ11 1 x0 7).bind fun t13 => ((aI σ11 2 t13 t3).bind fun t14 => ((gR σ11 1 x0 2).bind fun t15 => ((aI σ11 2 t15 t3).bind fun t16 => (cb (fJ9_max_7cf53 t14 t16 σ11) fun r18 σ17 => ((sI σ17 2 t12 t3 r18).bind fun σ19 => (fX1_widen_b2 n x0 (x1 + (1 : Int32)) σ19)))))))))))))))))))
set_option maxHeartbeats 2000000 in
theorem sX1_widen_b2 {G : GP} {n0 : Nat} : ∀ (n : Nat) (x0 : Nat) (x1 : Int32) (σ : Sto), Sim G mX1_widen 2 0 0 n0 jV 0 0 2 [(0, .ref x0), (1, .int x1)] [] σ (fX1_widen_b2 n x0 x1 σ) := by
  intro n
  induction n with
  | zero => intros; rw [fX1_widen_b2]; exact hj_none
  | succ n ih =>
    intro x0 x1 σ
    rw [fX1_widen_b2]
    refine hj_iload_n 1 dX1_widen_2 rfl ?_
    refine hj_aload_n 0 dX1_widen_3 rfl ?_
    refine hj_getI flX1_28 dX1_widen_4 (fun t1 _ => ?_)
    refine hj_icmp_ge 65 dX1_widen_7 (by decide) (fun _ => ?_) (fun _ => ?_)
    · exact hj_vret dX1_widen_65 rfl rfl (Nat.le_refl _)
    · refine hj_aload_n 0 dX1_widen_10 rfl ?_
      refine hj_getR flX1_25 dX1_widen_11 (fun t2 _ => ?_)
      refine hj_iload_n 1 dX1_widen_14 rfl ?_
      refine hj_iald dX1_widen_15 (fun t3 _ => ?_)
      refine hj_istore_n (lv' := [(0, .ref x0), (1, .int x1), (2, .int t3)]) dX1_widen_16 (by decide) [1, 2, 0] rfl ?_
      refine hj_aload_n 0 dX1_widen_17 rfl ?_
      refine hj_getR flX1_34 dX1_widen_18 (fun t4 _ => ?_)
      refine hj_iload_n 2 dX1_widen_21 rfl ?_
      refine hj_aload_n 0 dX1_widen_22 rfl ?_
      refine hj_getR flX1_34 dX1_widen_23 (fun t5 _ => ?_)
      refine hj_iload_n 2 dX1_widen_26 rfl ?_
      refine hj_iald dX1_widen_27 (fun t6 _ => ?_)
      refine hj_aload_n 0 dX1_widen_28 rfl ?_
      refine hj_getR flX1_21 dX1_widen_29 (fun t7 _ => ?_)
      refine hj_iload_n 2 dX1_widen_32 rfl ?_
      refine hj_iald dX1_widen_33 (fun t8 _ => ?_)
      refine hj_callS (M' := mJ9_min_7cf53) (h' := 1) (As := [.int t6, .int t8]) mfJ9_min_7cf53 msJ9_min_7cf53 mlX1_72 dX1_widen_34 (kJ9_min_7cf53 G _ _ _) ⟨Nat.le_of_ble_eq_true rfl, Nat.le_of_ble_eq_true rfl⟩ ⟨Nat.le_refl _, Nat.le_refl _⟩ rfl (Nat.le_of_ble_eq_true rfl) (fun r10 σ9 _ => ?_)
      refine hj_iast dX1_widen_37 (fun σ11 _ => ?_)
      refine hj_aload_n 0 dX1_widen_38 rfl ?_
      refine hj_getR flX1_37 dX1_widen_39 (fun t12 _ => ?_)
      refine hj_iload_n 2 dX1_widen_42 rfl ?_
      refine hj_aload_n 0 dX1_widen_43 rfl ?_
      refine hj_getR flX1_37 dX1_widen_44 (fun t13 _ => ?_)
      refine hj_iload_n 2 dX1_widen_47 rfl ?_
      refine hj_iald dX1_widen_48 (fun t14 _ => ?_)
      refine hj_aload_n 0 dX1_widen_49 rfl ?_
      refine hj_getR flX1_21 dX1_widen_50 (fun t15 _ => ?_)
      refine hj_iload_n 2 dX1_widen_53 rfl ?_
      refine hj_iald dX1_widen_54 (fun t16 _ => ?_)
      refine hj_callS (M' := mJ9_max_7cf53) (h' := 1) (As := [.int t14, .int t16]) mfJ9_max_7cf53 msJ9_max_7cf53 mlX1_78 dX1_widen_55 (kJ9_max_7cf53 G _ _ _) ⟨Nat.le_of_ble_eq_true rfl, Nat.le_of_ble_eq_true rfl⟩ ⟨Nat.le_refl _, Nat.le_refl _⟩ rfl (Nat.le_of_ble_eq_true rfl) (fun r18 σ17 _ => ?_)
      refine hj_iast dX1_widen_58 (fun σ19 _ => ?_)
      refine hj_iinc (lv' := [(0, .ref x0), (1, .int (x1 + (1 : Int32))), (2, .int t3)]) 1 (1 : Int32) dX1_widen_59 rfl (by decide) (by decide) [1, 0, 2] rfl ?_
      refine hj_goto 2 dX1_widen_62 (by decide) ?_
      refine hj_loc (lv' := [(0, .ref x0), (1, .int (x1 + (1 : Int32)))]) [0, 1] rfl ?_
      exact ih _ _ _
def fX1_widen (a0 : Nat) (σ : Sto) : Option (Unit × Sto) := ck σ 1 a0 (fX1_widen_b2 FU a0 ((0 : Int32)) σ)
set_option maxHeartbeats 2000000 in
theorem kX1_widen (G : GP) (a0 : Nat) (σ : Sto) : Me G mX1_widen 2 0 0 jV [.ref a0] σ (fX1_widen a0 σ) := by
  refine hs_me (lv := [(0, .ref a0)]) (plainFor_of_name (by decide +kernel)) (Nat.le_of_ble_eq_true rfl) rfl ?_
  unfold fX1_widen
  refine hj_ck ?_
  refine hj_iconst (0 : Int32) dX1_widen_0 (by decide) ?_
  refine hj_istore_n (lv' := [(0, .ref a0), (1, .int (0 : Int32))]) dX1_widen_1 (by decide) [1, 0] rfl ?_
  refine hj_loc (lv' := [(0, .ref a0), (1, .int (0 : Int32))]) [0, 1] rfl ?_
  exact sX1_widen_b2 _ _ _ _
theorem cX1_widenk {a0 : Nat} {σ : Sto} {r : Unit × Sto} (h : fX1_widen a0 σ = some r) : ∃ fs, hs_o σ 1 a0 = some fs := (ck_of h).1
def fX1_search_b80 (K44 : Nat → Int32 → Int32 → Int32 → Int32 → Int32 → Sto → Option (Unit × Sto)) (x0 : Nat) (x2 : Int32) (x3 : Int32) (x4 : Int32) (x5 : Int32) (x6 : Int32) (σ : Sto) : Option (Unit × Sto) := (K44 x0 x2 x3 x4 x5 (x6 + (1 : Int32)) σ)
set_option maxHeartbeats 2000000 in
theorem sX1_search_b80 {G : GP} {n0 : Nat} {K44 : Nat → Int32 → Int32 → Int32 → Int32 → Int32 → Sto → Option (Unit × Sto)} (hK44 : ∀ (x0 : Nat) (x2 : Int32) (x3 : Int32) (x4 : Int32) (x5 : Int32) (x6 : Int32) (σ : Sto), Sim G mX1_search 3 0 0 n0 jV 0 0 44 [(0, .ref x0), (2, .int x2), (3, .int x3), (4, .int x4), (5, .int x5), (6, .int x6)] [] σ (K44 x0 x2 x3 x4 x5 x6 σ)) : ∀ (x0 : Nat) (x2 : Int32) (x3 : Int32) (x4 : Int32) (x5 : Int32) (x6 : Int32) (σ : Sto), Sim G mX1_search 3 0 0 n0 jV 0 0 80 [(0, .ref x0), (2, .int x2), (3, .int x3), (4, .int x4), (5, .int x5), (6, .int x6)] [] σ (fX1_search_b80 K44 x0 x2 x3 x4 x5 x6 σ) := by
  intro x0 x2 x3 x4 x5 x6 σ
  unfold fX1_search_b80
  refine hj_iinc (lv' := [(0, .ref x0), (2, .int x2), (3, .int x3), (4, .int x4), (5, .int x5), (6, .int (x6 + (1 : Int32)))]) 5 (1 : Int32) dX1_search_80 rfl (by decide) (by decide) [1, 2, 3, 4, 5, 0] rfl ?_
  refine hj_goto 44 dX1_search_83 (by decide) ?_
  refine hj_loc (lv' := [(0, .ref x0), (2, .int x2), (3, .int x3), (4, .int x4), (5, .int x5), (6, .int (x6 + (1 : Int32)))]) [0, 1, 2, 3, 4, 5] rfl ?_
  exact hK44 _ _ _ _ _ _ _
def fX1_search_b44 : Nat → Nat → Int32 → Int32 → Int32 → Int32 → Int32 → Sto → Option (Unit × Sto)
  | 0, _, _, _, _, _, _, _ => none
  | n + 1, x0, x2, x3, x4, x5, x6, σ => (if x5 ≤ x6 then ((gI σ 1 x0 5).bind fun t1 => ((pV σ 1 x0 5 (.int ((t1 * x4)))).bind fun σ2 => (some ((), σ2)))) else (cb (fX1_fillRow x0 x6 x2 σ) fun _ σ3 => (cb (fX1_agree x0 x3 σ3) fun r5 σ4 => (if r5 = 0 then (fX1_search_b80 (fX1_search_b44 n) x0 x2 x3 x4 x5 x6 σ4) else ((gI σ4 1 x0 5).bind fun t6 => ((pV σ4 1 x0 5 (.int ((t6 + ((1 : Int32)))))).bind fun σ7 => (cb (fX1_widen x0 σ7) fun _ σ8 => (fX1_search_b80 (fX1_search_b44 n) x0 x2 x3 x4 x5 x6 σ8))))))))
set_option maxHeartbeats 2000000 in
theorem sX1_search_b44 {G : GP} {n0 : Nat} : ∀ (n : Nat) (x0 : Nat) (x2 : Int32) (x3 : Int32) (x4 : Int32) (x5 : Int32) (x6 : Int32) (σ : Sto), Sim G mX1_search 3 0 0 n0 jV 0 0 44 [(0, .ref x0), (2, .int x2), (3, .int x3), (4, .int x4), (5, .int x5), (6, .int x6)] [] σ (fX1_search_b44 n x0 x2 x3 x4 x5 x6 σ) := by
  intro n
  induction n with
  | zero => intros; rw [fX1_search_b44]; exact hj_none
  | succ n ih =>
    intro x0 x2 x3 x4 x5 x6 σ
    rw [fX1_search_b44]
    refine hj_iload 5 dX1_search_44 rfl ?_
    refine hj_iload 4 dX1_search_46 rfl ?_
    refine hj_icmp_ge 86 dX1_search_48 (by decide) (fun _ => ?_) (fun _ => ?_)
    · refine hj_aload_n 0 dX1_search_86 rfl ?_
      refine hj_dup dX1_search_87 rfl ?_
      refine hj_getI flX1_31 dX1_search_88 (fun t1 _ => ?_)
      refine hj_iload 3 dX1_search_91 rfl ?_
      refine hj_imul dX1_search_93 ?_
      refine hj_put (fpX1_31 _) (fun _ => rfl) (fun _ => rfl) dX1_search_94 (fun σ2 _ => ?_)
      exact hj_vret dX1_search_97 rfl rfl (Nat.le_refl _)
    · refine hj_aload_n 0 dX1_search_51 rfl ?_
      refine hj_iload 5 dX1_search_52 rfl ?_
      refine hj_iload_n 1 dX1_search_54 rfl ?_
      refine hj_callV (ci := 1) (M' := mX1_fillRow) (h' := 1) (As := [.int x6, .int x2]) mfX1_fillRow mvX1_fillRow ⟨_, _, rfl⟩ mlX1_49 dX1_search_55 (kX1_fillRow G _ _ _ _) (fun _ hr => cX1_fillRowk hr) ⟨Nat.le_of_ble_eq_true rfl, Nat.le_of_ble_eq_true rfl⟩ ⟨Nat.le_refl _, Nat.le_refl _⟩ rfl (Nat.le_of_ble_eq_true rfl) (fun _ σ3 _ => ?_)
      refine hj_aload_n 0 dX1_search_58 rfl ?_
      refine hj_iload_n 2 dX1_search_59 rfl ?_
      refine hj_callV (ci := 1) (M' := mX1_agree) (h' := 2) (As := [.int x3]) mfX1_agree mvX1_agree ⟨_, _, rfl⟩ mlX1_53 dX1_search_60 (kX1_agree G _ _ _) (fun _ hr => cX1_agreek hr) ⟨Nat.le_of_ble_eq_true rfl, Nat.le_of_ble_eq_true rfl⟩ ⟨Nat.le_refl _, Nat.le_refl _⟩ rfl (Nat.le_of_ble_eq_true rfl) (fun r5 σ4 _ => ?_)
      refine hj_if_eq 80 dX1_search_63 (by decide) (fun _ => ?_) (fun _ => ?_)
      · refine hj_loc (lv' := [(0, .ref x0), (2, .int x2), (3, .int x3), (4, .int x4), (5, .int x5), (6, .int x6)]) [0, 1, 2, 3, 4, 5] rfl ?_
        exact sX1_search_b80 ih _ _ _ _ _ _ _
      · refine hj_aload_n 0 dX1_search_66 rfl ?_
        refine hj_dup dX1_search_67 rfl ?_
        refine hj_getI flX1_31 dX1_search_68 (fun t6 _ => ?_)
        refine hj_iconst (1 : Int32) dX1_search_71 (by decide) ?_
        refine hj_iadd dX1_search_72 ?_
        refine hj_put (fpX1_31 _) (fun _ => rfl) (fun _ => rfl) dX1_search_73 (fun σ7 _ => ?_)
        refine hj_aload_n 0 dX1_search_76 rfl ?_
        refine hj_callV (ci := 1) (M' := mX1_widen) (h' := 2) (As := []) mfX1_widen mvX1_widen ⟨_, _, rfl⟩ mlX1_57 dX1_search_77 (kX1_widen G _ _) (fun _ hr => cX1_widenk hr) ⟨Nat.le_of_ble_eq_true rfl, Nat.le_of_ble_eq_true rfl⟩ ⟨Nat.le_refl _, Nat.le_refl _⟩ rfl (Nat.le_of_ble_eq_true rfl) (fun _ σ8 _ => ?_)
        refine hj_loc (lv' := [(0, .ref x0), (2, .int x2), (3, .int x3), (4, .int x4), (5, .int x5), (6, .int x6)]) [0, 1, 2, 3, 4, 5] rfl ?_
        exact sX1_search_b80 ih _ _ _ _ _ _ _
def fX1_search_b36 (x0 : Nat) (x2 : Int32) (x3 : Int32) (x4 : Int32) (x5 : Int32) (σ : Sto) : Option (Unit × Sto) := ((pV σ 1 x0 5 (.int ((0 : Int32)))).bind fun σ9 => (fX1_search_b44 FU x0 x2 x3 x4 x5 ((0 : Int32)) σ9))
set_option maxHeartbeats 2000000 in
theorem sX1_search_b36 {G : GP} {n0 : Nat} : ∀ (x0 : Nat) (x2 : Int32) (x3 : Int32) (x4 : Int32) (x5 : Int32) (σ : Sto), Sim G mX1_search 3 0 0 n0 jV 0 0 36 [(0, .ref x0), (2, .int x2), (3, .int x3), (4, .int x4), (5, .int x5)] [] σ (fX1_search_b36 x0 x2 x3 x4 x5 σ) := by
  intro x0 x2 x3 x4 x5 σ
  unfold fX1_search_b36
  refine hj_aload_n 0 dX1_search_36 rfl ?_
  refine hj_iconst (0 : Int32) dX1_search_37 (by decide) ?_
  refine hj_put (fpX1_31 _) (fun _ => rfl) (fun _ => rfl) dX1_search_38 (fun σ9 _ => ?_)
  refine hj_iconst (0 : Int32) dX1_search_41 (by decide) ?_
  refine hj_istore (lv' := [(0, .ref x0), (2, .int x2), (3, .int x3), (4, .int x4), (5, .int x5), (6, .int (0 : Int32))]) dX1_search_42 (by decide) [1, 2, 3, 4, 5, 0] rfl ?_
  refine hj_loc (lv' := [(0, .ref x0), (2, .int x2), (3, .int x3), (4, .int x4), (5, .int x5), (6, .int (0 : Int32))]) [0, 1, 2, 3, 4, 5] rfl ?_
  exact sX1_search_b44 _ _ _ _ _ _ _ _
def fX1_search_b15 : Nat → Nat → Int32 → Int32 → Int32 → Int32 → Int32 → Sto → Option (Unit × Sto)
  | 0, _, _, _, _, _, _, _ => none
  | n + 1, x0, x2, x3, x4, x5, x6, σ => ((gI σ 1 x0 4).bind fun t10 => (if t10 ≤ x6 then (fX1_search_b36 x0 x2 x3 x4 x5 σ) else (lt ((x5 * x2)) fun v11 => (fX1_search_b15 n x0 x2 x3 x4 v11 (x6 + (1 : Int32)) σ))))
set_option maxHeartbeats 2000000 in
theorem sX1_search_b15 {G : GP} {n0 : Nat} : ∀ (n : Nat) (x0 : Nat) (x2 : Int32) (x3 : Int32) (x4 : Int32) (x5 : Int32) (x6 : Int32) (σ : Sto), Sim G mX1_search 3 0 0 n0 jV 0 0 15 [(0, .ref x0), (2, .int x2), (3, .int x3), (4, .int x4), (5, .int x5), (6, .int x6)] [] σ (fX1_search_b15 n x0 x2 x3 x4 x5 x6 σ) := by
  intro n
  induction n with
  | zero => intros; rw [fX1_search_b15]; exact hj_none
  | succ n ih =>
    intro x0 x2 x3 x4 x5 x6 σ
    rw [fX1_search_b15]
    refine hj_iload 5 dX1_search_15 rfl ?_
    refine hj_aload_n 0 dX1_search_17 rfl ?_
    refine hj_getI flX1_28 dX1_search_18 (fun t10 _ => ?_)
    refine hj_icmp_ge 36 dX1_search_21 (by decide) (fun _ => ?_) (fun _ => ?_)
    · refine hj_loc (lv' := [(0, .ref x0), (2, .int x2), (3, .int x3), (4, .int x4), (5, .int x5)]) [0, 1, 2, 3, 4] rfl ?_
      exact sX1_search_b36 _ _ _ _ _ _
    · refine hj_iload 4 dX1_search_24 rfl ?_
      refine hj_iload_n 1 dX1_search_26 rfl ?_
      refine hj_imul dX1_search_27 ?_
      refine hj_ltI (fun v11 _ => ?_)
      refine hj_istore (lv' := [(0, .ref x0), (2, .int x2), (3, .int x3), (4, .int x4), (5, .int v11), (6, .int x6)]) dX1_search_28 (by decide) [1, 2, 3, 4, 0, 5] rfl ?_
      refine hj_iinc (lv' := [(0, .ref x0), (2, .int x2), (3, .int x3), (4, .int x4), (5, .int v11), (6, .int (x6 + (1 : Int32)))]) 5 (1 : Int32) dX1_search_30 rfl (by decide) (by decide) [1, 2, 3, 4, 5, 0] rfl ?_
      refine hj_goto 15 dX1_search_33 (by decide) ?_
      refine hj_loc (lv' := [(0, .ref x0), (2, .int x2), (3, .int x3), (4, .int x4), (5, .int v11), (6, .int (x6 + (1 : Int32)))]) [0, 1, 2, 3, 4, 5] rfl ?_
      exact ih _ _ _ _ _ _ _
def fX1_search (a0 : Nat) (a1 : Int32) (a2 : Int32) (a3 : Int32) (σ : Sto) : Option (Unit × Sto) := ck σ 1 a0 (cb (fX1_prepare a0 a1 a2 a3 σ) fun r13 σ12 => (fX1_search_b15 FU a0 a2 a3 r13 ((1 : Int32)) ((0 : Int32)) σ12))
set_option maxHeartbeats 2000000 in
theorem kX1_search (G : GP) (a0 : Nat) (a1 : Int32) (a2 : Int32) (a3 : Int32) (σ : Sto) : Me G mX1_search 3 0 0 jV [.ref a0, .int a1, .int a2, .int a3] σ (fX1_search a0 a1 a2 a3 σ) := by
  refine hs_me (lv := [(0, .ref a0), (1, .int a1), (2, .int a2), (3, .int a3)]) (plainFor_of_name (by decide +kernel)) (Nat.le_of_ble_eq_true rfl) rfl ?_
  unfold fX1_search
  refine hj_ck ?_
  refine hj_aload_n 0 dX1_search_0 rfl ?_
  refine hj_iload_n 1 dX1_search_1 rfl ?_
  refine hj_iload_n 2 dX1_search_2 rfl ?_
  refine hj_iload_n 3 dX1_search_3 rfl ?_
  refine hj_callV (ci := 1) (M' := mX1_prepare) (h' := 2) (As := [.int a1, .int a2, .int a3]) mfX1_prepare mvX1_prepare ⟨_, _, rfl⟩ mlX1_45 dX1_search_4 (kX1_prepare G _ _ _ _ _) (fun _ hr => cX1_preparek hr) ⟨Nat.le_of_ble_eq_true rfl, Nat.le_of_ble_eq_true rfl⟩ ⟨Nat.le_refl _, Nat.le_refl _⟩ rfl (Nat.le_of_ble_eq_true rfl) (fun r13 σ12 _ => ?_)
  refine hj_istore (lv' := [(0, .ref a0), (1, .int a1), (2, .int a2), (3, .int a3), (4, .int r13)]) dX1_search_7 (by decide) [1, 2, 3, 4, 0] rfl ?_
  refine hj_iconst (1 : Int32) dX1_search_9 (by decide) ?_
  refine hj_istore (lv' := [(0, .ref a0), (1, .int a1), (2, .int a2), (3, .int a3), (4, .int r13), (5, .int (1 : Int32))]) dX1_search_10 (by decide) [1, 2, 3, 4, 5, 0] rfl ?_
  refine hj_iconst (0 : Int32) dX1_search_12 (by decide) ?_
  refine hj_istore (lv' := [(0, .ref a0), (1, .int a1), (2, .int a2), (3, .int a3), (4, .int r13), (5, .int (1 : Int32)), (6, .int (0 : Int32))]) dX1_search_13 (by decide) [1, 2, 3, 4, 5, 6, 0] rfl ?_
  refine hj_loc (lv' := [(0, .ref a0), (2, .int a2), (3, .int a3), (4, .int r13), (5, .int (1 : Int32)), (6, .int (0 : Int32))]) [0, 2, 3, 4, 5, 6] rfl ?_
  exact sX1_search_b15 _ _ _ _ _ _ _ _
theorem cX1_searchk {a0 : Nat} {a1 : Int32} {a2 : Int32} {a3 : Int32} {σ : Sto} {r : Unit × Sto} (h : fX1_search a0 a1 a2 a3 σ = some r) : ∃ fs, hs_o σ 1 a0 = some fs := (ck_of h).1
def fX4_note (a0 : Nat) (a1 : Int32) (a2 : Int32) (a3 : Int32) (a4 : Int32) (σ : Sto) : Option (Unit × Sto) := ck σ 4 a0 ((gI σ 4 a0 1).bind fun t1 => ((pV σ 4 a0 1 (.int ((hs_rem ((t1 + ((1 : Int32)))) ((50 : Int32)))))).bind fun σ2 => ((gR σ2 4 a0 2).bind fun t3 => ((gI σ2 4 a0 1).bind fun t4 => ((sI σ2 2 t3 t4 a1).bind fun σ5 => ((gR σ5 4 a0 3).bind fun t6 => ((gI σ5 4 a0 1).bind fun t7 => ((sI σ5 2 t6 t7 a2).bind fun σ8 => ((gR σ8 4 a0 4).bind fun t9 => ((gI σ8 4 a0 1).bind fun t10 => ((sI σ8 2 t9 t10 a3).bind fun σ11 => ((gR σ11 4 a0 5).bind fun t12 => ((gI σ11 4 a0 1).bind fun t13 => ((sI σ11 4 t12 t13 a4).bind fun σ14 => ((gI σ14 4 a0 0).bind fun t15 => (cb (fJ9_min_7cf53 ((50 : Int32)) ((t15 + ((1 : Int32)))) σ14) fun r17 σ16 => ((pV σ16 4 a0 0 (.int r17)).bind fun σ18 => (some ((), σ18)))))))))))))))))))
set_option maxHeartbeats 2000000 in
theorem kX4_note (G : GP) (a0 : Nat) (a1 : Int32) (a2 : Int32) (a3 : Int32) (a4 : Int32) (σ : Sto) : Me G mX4_note 2 0 0 jV [.ref a0, .int a1, .int a2, .int a3, .int a4] σ (fX4_note a0 a1 a2 a3 a4 σ) := by
  refine hs_me (lv := [(0, .ref a0), (1, .int a1), (2, .int a2), (3, .int a3), (4, .int a4)]) (plainFor_of_name (by decide +kernel)) (Nat.le_of_ble_eq_true rfl) rfl ?_
  unfold fX4_note
  refine hj_ck ?_
  refine hj_aload_n 0 dX4_note_0 rfl ?_
  refine hj_aload_n 0 dX4_note_1 rfl ?_
  refine hj_getI flX4_15 dX4_note_2 (fun t1 _ => ?_)
  refine hj_iconst (1 : Int32) dX4_note_5 (by decide) ?_
  refine hj_iadd dX4_note_6 ?_
  refine hj_bipush (50 : Int32) dX4_note_7 (by decide) ?_
  refine hj_iremK dX4_note_9 (by decide) ?_
  refine hj_put (fpX4_15 _) (fun _ => rfl) (fun _ => rfl) dX4_note_10 (fun σ2 _ => ?_)
  refine hj_aload_n 0 dX4_note_13 rfl ?_
  refine hj_getR flX4_18 dX4_note_14 (fun t3 _ => ?_)
  refine hj_aload_n 0 dX4_note_17 rfl ?_
  refine hj_getI flX4_15 dX4_note_18 (fun t4 _ => ?_)
  refine hj_iload_n 1 dX4_note_21 rfl ?_
  refine hj_iast dX4_note_22 (fun σ5 _ => ?_)
  refine hj_aload_n 0 dX4_note_23 rfl ?_
  refine hj_getR flX4_22 dX4_note_24 (fun t6 _ => ?_)
  refine hj_aload_n 0 dX4_note_27 rfl ?_
  refine hj_getI flX4_15 dX4_note_28 (fun t7 _ => ?_)
  refine hj_iload_n 2 dX4_note_31 rfl ?_
  refine hj_iast dX4_note_32 (fun σ8 _ => ?_)
  refine hj_aload_n 0 dX4_note_33 rfl ?_
  refine hj_getR flX4_25 dX4_note_34 (fun t9 _ => ?_)
  refine hj_aload_n 0 dX4_note_37 rfl ?_
  refine hj_getI flX4_15 dX4_note_38 (fun t10 _ => ?_)
  refine hj_iload_n 3 dX4_note_41 rfl ?_
  refine hj_iast dX4_note_42 (fun σ11 _ => ?_)
  refine hj_aload_n 0 dX4_note_43 rfl ?_
  refine hj_getR flX4_28 dX4_note_44 (fun t12 _ => ?_)
  refine hj_aload_n 0 dX4_note_47 rfl ?_
  refine hj_getI flX4_15 dX4_note_48 (fun t13 _ => ?_)
  refine hj_iload 4 dX4_note_51 rfl ?_
  refine hj_zast dX4_note_53 (fun σ14 _ => ?_)
  refine hj_aload_n 0 dX4_note_54 rfl ?_
  refine hj_bipush (50 : Int32) dX4_note_55 (by decide) ?_
  refine hj_aload_n 0 dX4_note_57 rfl ?_
  refine hj_getI flX4_9 dX4_note_58 (fun t15 _ => ?_)
  refine hj_iconst (1 : Int32) dX4_note_61 (by decide) ?_
  refine hj_iadd dX4_note_62 ?_
  refine hj_callS (M' := mJ9_min_7cf53) (h' := 1) (As := [.int ((50 : Int32)), .int ((t15 + ((1 : Int32))))]) mfJ9_min_7cf53 msJ9_min_7cf53 mlX4_32 dX4_note_63 (kJ9_min_7cf53 G _ _ _) ⟨Nat.le_of_ble_eq_true rfl, Nat.le_of_ble_eq_true rfl⟩ ⟨Nat.le_refl _, Nat.le_refl _⟩ rfl (Nat.le_of_ble_eq_true rfl) (fun r17 σ16 _ => ?_)
  refine hj_put (fpX4_9 _) (fun _ => rfl) (fun _ => rfl) dX4_note_66 (fun σ18 _ => ?_)
  exact hj_vret dX4_note_69 rfl rfl (Nat.le_refl _)
theorem cX4_notek {a0 : Nat} {a1 : Int32} {a2 : Int32} {a3 : Int32} {a4 : Int32} {σ : Sto} {r : Unit × Sto} (h : fX4_note a0 a1 a2 a3 a4 σ = some r) : ∃ fs, hs_o σ 4 a0 = some fs := (ck_of h).1
def fX4_takeBack_b108 (x0 : Nat) (σ : Sto) : Option (Int32 × Sto) := ((gI σ 4 x0 1).bind fun t1 => ((pV σ 4 x0 1 (.int ((hs_rem ((((t1 + ((50 : Int32)))) - ((1 : Int32)))) ((50 : Int32)))))).bind fun σ2 => ((gI σ2 4 x0 0).bind fun t3 => ((pV σ2 4 x0 0 (.int ((t3 - ((1 : Int32)))))).bind fun σ4 => (some ((1 : Int32), σ4))))))
set_option maxHeartbeats 2000000 in
theorem sX4_takeBack_b108 {G : GP} {n0 : Nat} : ∀ (x0 : Nat) (σ : Sto), Sim G mX4_takeBack 3 0 0 n0 jI 0 0 108 [(0, .ref x0)] [] σ (fX4_takeBack_b108 x0 σ) := by
  intro x0 σ
  unfold fX4_takeBack_b108
  refine hj_aload_n 0 dX4_takeBack_108 rfl ?_
  refine hj_aload_n 0 dX4_takeBack_109 rfl ?_
  refine hj_getI flX4_15 dX4_takeBack_110 (fun t1 _ => ?_)
  refine hj_bipush (50 : Int32) dX4_takeBack_113 (by decide) ?_
  refine hj_iadd dX4_takeBack_115 ?_
  refine hj_iconst (1 : Int32) dX4_takeBack_116 (by decide) ?_
  refine hj_isub dX4_takeBack_117 ?_
  refine hj_bipush (50 : Int32) dX4_takeBack_118 (by decide) ?_
  refine hj_iremK dX4_takeBack_120 (by decide) ?_
  refine hj_put (fpX4_15 _) (fun _ => rfl) (fun _ => rfl) dX4_takeBack_121 (fun σ2 _ => ?_)
  refine hj_aload_n 0 dX4_takeBack_124 rfl ?_
  refine hj_dup dX4_takeBack_125 rfl ?_
  refine hj_getI flX4_9 dX4_takeBack_126 (fun t3 _ => ?_)
  refine hj_iconst (1 : Int32) dX4_takeBack_129 (by decide) ?_
  refine hj_isub dX4_takeBack_130 ?_
  refine hj_put (fpX4_9 _) (fun _ => rfl) (fun _ => rfl) dX4_takeBack_131 (fun σ4 _ => ?_)
  refine hj_iconst (1 : Int32) dX4_takeBack_134 (by decide) ?_
  exact hj_zret dX4_takeBack_135 rfl (by decide) rfl (Nat.le_refl _)
def fX4_takeBack (a0 : Nat) (a1 : Nat) (σ : Sto) : Option (Int32 × Sto) := ck σ 4 a0 ((gI σ 4 a0 0).bind fun t5 => (if t5 = 0 then (some ((0 : Int32), σ)) else ((gR σ 4 a0 2).bind fun t6 => ((gI σ 4 a0 1).bind fun t7 => ((aI σ 2 t6 t7).bind fun t8 => (if t8 = (1 : Int32) then (cb (fX5_drop a1 σ) fun _ σ26 => (fX4_takeBack_b108 a0 σ26)) else (if t8 = (2 : Int32) then ((gR σ 4 a0 3).bind fun t16 => ((gI σ 4 a0 1).bind fun t17 => ((aI σ 2 t16 t17).bind fun t18 => ((gR σ 4 a0 4).bind fun t19 => ((gI σ 4 a0 1).bind fun t20 => ((aI σ 2 t19 t20).bind fun t21 => ((gR σ 4 a0 5).bind fun t22 => ((gI σ 4 a0 1).bind fun t23 => ((aI σ 4 t22 t23).bind fun t24 => (cb (fX5_put a1 t18 t21 t24 σ) fun _ σ25 => (fX4_takeBack_b108 a0 σ25))))))))))) else ((gR σ 4 a0 3).bind fun t9 => ((gI σ 4 a0 1).bind fun t10 => ((aI σ 2 t9 t10).bind fun t11 => ((gR σ 4 a0 4).bind fun t12 => ((gI σ 4 a0 1).bind fun t13 => ((aI σ 2 t12 t13).bind fun t14 => (cb (fX5_shift a1 t11 ((-t14)) σ) fun _ σ15 => (fX4_takeBack_b108 a0 σ15)))))))))))))))
set_option maxHeartbeats 2000000 in
theorem kX4_takeBack (G : GP) (a0 : Nat) (a1 : Nat) (σ : Sto) : Me G mX4_takeBack 3 0 0 jI [.ref a0, .ref a1] σ (fX4_takeBack a0 a1 σ) := by
  refine hs_me (lv := [(0, .ref a0), (1, .ref a1)]) (plainFor_of_name (by decide +kernel)) (Nat.le_of_ble_eq_true rfl) rfl ?_
  unfold fX4_takeBack
  refine hj_ck ?_
  refine hj_aload_n 0 dX4_takeBack_0 rfl ?_
  refine hj_getI flX4_9 dX4_takeBack_1 (fun t5 _ => ?_)
  refine hj_if_ne 9 dX4_takeBack_4 (by decide) (fun _ => ?_) (fun _ => ?_)
  · refine hj_aload_n 0 dX4_takeBack_9 rfl ?_
    refine hj_getR flX4_18 dX4_takeBack_10 (fun t6 _ => ?_)
    refine hj_aload_n 0 dX4_takeBack_13 rfl ?_
    refine hj_getI flX4_15 dX4_takeBack_14 (fun t7 _ => ?_)
    refine hj_iald dX4_takeBack_17 (fun t8 _ => ?_)
    refine hj_ite (fun n0 => ?_) (fun n0 => ?_)
    · refine hj_lsw (26) 44 dX4_takeBack_18 (by decide) (by rw [n0]; decide) (by decide) ?_
      refine hj_aload_n 1 dX4_takeBack_44 rfl ?_
      refine hj_callV (ci := 5) (M' := mX5_drop) (h' := 1) (As := []) mfX5_drop mvX5_drop ⟨_, _, rfl⟩ mlX4_38 dX4_takeBack_45 (kX5_drop G _ _) (fun _ hr => cX5_dropk hr) ⟨Nat.le_of_ble_eq_true rfl, Nat.le_of_ble_eq_true rfl⟩ ⟨Nat.le_refl _, Nat.le_refl _⟩ rfl (Nat.le_of_ble_eq_true rfl) (fun _ σ26 _ => ?_)
      refine hj_goto 108 dX4_takeBack_48 (by decide) ?_
      refine hj_loc (lv' := [(0, .ref a0)]) [0] rfl ?_
      exact sX4_takeBack_b108 _ _
    · refine hj_ite (fun n1 => ?_) (fun n1 => ?_)
      · refine hj_lsw (33) 51 dX4_takeBack_18 (by decide) (by rw [n1]; decide) (by decide) ?_
        refine hj_aload_n 1 dX4_takeBack_51 rfl ?_
        refine hj_aload_n 0 dX4_takeBack_52 rfl ?_
        refine hj_getR flX4_22 dX4_takeBack_53 (fun t16 _ => ?_)
        refine hj_aload_n 0 dX4_takeBack_56 rfl ?_
        refine hj_getI flX4_15 dX4_takeBack_57 (fun t17 _ => ?_)
        refine hj_iald dX4_takeBack_60 (fun t18 _ => ?_)
        refine hj_aload_n 0 dX4_takeBack_61 rfl ?_
        refine hj_getR flX4_25 dX4_takeBack_62 (fun t19 _ => ?_)
        refine hj_aload_n 0 dX4_takeBack_65 rfl ?_
        refine hj_getI flX4_15 dX4_takeBack_66 (fun t20 _ => ?_)
        refine hj_iald dX4_takeBack_69 (fun t21 _ => ?_)
        refine hj_aload_n 0 dX4_takeBack_70 rfl ?_
        refine hj_getR flX4_28 dX4_takeBack_71 (fun t22 _ => ?_)
        refine hj_aload_n 0 dX4_takeBack_74 rfl ?_
        refine hj_getI flX4_15 dX4_takeBack_75 (fun t23 _ => ?_)
        refine hj_zald dX4_takeBack_78 (fun t24 _ => ?_)
        refine hj_callV (ci := 5) (M' := mX5_put) (h' := 1) (As := [.int t18, .int t21, .int t24]) mfX5_put mvX5_put ⟨_, _, rfl⟩ mlX4_43 dX4_takeBack_79 (kX5_put G _ _ _ _ _) (fun _ hr => cX5_putk hr) ⟨Nat.le_of_ble_eq_true rfl, Nat.le_of_ble_eq_true rfl⟩ ⟨Nat.le_refl _, Nat.le_refl _⟩ rfl (Nat.le_of_ble_eq_true rfl) (fun _ σ25 _ => ?_)
        refine hj_goto 108 dX4_takeBack_82 (by decide) ?_
        refine hj_loc (lv' := [(0, .ref a0)]) [0] rfl ?_
        exact sX4_takeBack_b108 _ _
      · refine hj_lsw (67) 85 dX4_takeBack_18 (by decide) (by show Op.lookupswitch.offset _ _ _ = _; rw [lv_osw n0 (by decide), lv_osw n1 (by decide)]; rfl) (by decide) ?_
        refine hj_aload_n 1 dX4_takeBack_85 rfl ?_
        refine hj_aload_n 0 dX4_takeBack_86 rfl ?_
        refine hj_getR flX4_22 dX4_takeBack_87 (fun t9 _ => ?_)
        refine hj_aload_n 0 dX4_takeBack_90 rfl ?_
        refine hj_getI flX4_15 dX4_takeBack_91 (fun t10 _ => ?_)
        refine hj_iald dX4_takeBack_94 (fun t11 _ => ?_)
        refine hj_aload_n 0 dX4_takeBack_95 rfl ?_
        refine hj_getR flX4_25 dX4_takeBack_96 (fun t12 _ => ?_)
        refine hj_aload_n 0 dX4_takeBack_99 rfl ?_
        refine hj_getI flX4_15 dX4_takeBack_100 (fun t13 _ => ?_)
        refine hj_iald dX4_takeBack_103 (fun t14 _ => ?_)
        refine hj_ineg dX4_takeBack_104 ?_
        refine hj_callV (ci := 5) (M' := mX5_shift) (h' := 2) (As := [.int t11, .int ((-t14))]) mfX5_shift mvX5_shift ⟨_, _, rfl⟩ mlX4_47 dX4_takeBack_105 (kX5_shift G _ _ _ _) (fun _ hr => cX5_shiftk hr) ⟨Nat.le_of_ble_eq_true rfl, Nat.le_of_ble_eq_true rfl⟩ ⟨Nat.le_refl _, Nat.le_refl _⟩ rfl (Nat.le_of_ble_eq_true rfl) (fun _ σ15 _ => ?_)
        refine hj_loc (lv' := [(0, .ref a0)]) [0] rfl ?_
        exact sX4_takeBack_b108 _ _
  · refine hj_iconst (0 : Int32) dX4_takeBack_7 (by decide) ?_
    exact hj_zret dX4_takeBack_8 rfl (by decide) rfl (Nat.le_refl _)
theorem cX4_takeBackk {a0 : Nat} {a1 : Nat} {σ : Sto} {r : Int32 × Sto} (h : fX4_takeBack a0 a1 σ = some r) : ∃ fs, hs_o σ 4 a0 = some fs := (ck_of h).1
def fX8_empty_b2 : Nat → Nat → Int32 → Sto → Option (Unit × Sto)
  | 0, _, _, _ => none
  | n + 1, x0, x1, σ => (if (3 : Int32) ≤ x1 then (some ((), σ)) else ((gR σ 8 x0 1).bind fun t1 => ((sI σ 4 t1 x1 ((0 : Int32))).bind fun σ2 => (fX8_empty_b2 n x0 (x1 + (1 : Int32)) σ2))))
set_option maxHeartbeats 2000000 in
theorem sX8_empty_b2 {G : GP} {n0 : Nat} : ∀ (n : Nat) (x0 : Nat) (x1 : Int32) (σ : Sto), Sim G mX8_empty 1 0 0 n0 jV 0 0 2 [(0, .ref x0), (1, .int x1)] [] σ (fX8_empty_b2 n x0 x1 σ) := by
  intro n
  induction n with
  | zero => intros; rw [fX8_empty_b2]; exact hj_none
  | succ n ih =>
    intro x0 x1 σ
    rw [fX8_empty_b2]
    refine hj_iload_n 1 dX8_empty_2 rfl ?_
    refine hj_iconst (3 : Int32) dX8_empty_3 (by decide) ?_
    refine hj_icmp_ge 20 dX8_empty_4 (by decide) (fun _ => ?_) (fun _ => ?_)
    · exact hj_vret dX8_empty_20 rfl rfl (Nat.le_refl _)
    · refine hj_aload_n 0 dX8_empty_7 rfl ?_
      refine hj_getR flX8_17 dX8_empty_8 (fun t1 _ => ?_)
      refine hj_iload_n 1 dX8_empty_11 rfl ?_
      refine hj_iconst (0 : Int32) dX8_empty_12 (by decide) ?_
      refine hj_zast dX8_empty_13 (fun σ2 _ => ?_)
      refine hj_iinc (lv' := [(0, .ref x0), (1, .int (x1 + (1 : Int32)))]) 1 (1 : Int32) dX8_empty_14 rfl (by decide) (by decide) [1, 0] rfl ?_
      refine hj_goto 2 dX8_empty_17 (by decide) ?_
      refine hj_loc (lv' := [(0, .ref x0), (1, .int (x1 + (1 : Int32)))]) [0, 1] rfl ?_
      exact ih _ _ _
def fX8_empty (a0 : Nat) (σ : Sto) : Option (Unit × Sto) := ck σ 8 a0 (fX8_empty_b2 FU a0 ((0 : Int32)) σ)
set_option maxHeartbeats 2000000 in
theorem kX8_empty (G : GP) (a0 : Nat) (σ : Sto) : Me G mX8_empty 1 0 0 jV [.ref a0] σ (fX8_empty a0 σ) := by
  refine hs_me (lv := [(0, .ref a0)]) (plainFor_of_name (by decide +kernel)) (Nat.le_of_ble_eq_true rfl) rfl ?_
  unfold fX8_empty
  refine hj_ck ?_
  refine hj_iconst (0 : Int32) dX8_empty_0 (by decide) ?_
  refine hj_istore_n (lv' := [(0, .ref a0), (1, .int (0 : Int32))]) dX8_empty_1 (by decide) [1, 0] rfl ?_
  refine hj_loc (lv' := [(0, .ref a0), (1, .int (0 : Int32))]) [0, 1] rfl ?_
  exact sX8_empty_b2 _ _ _ _
theorem cX8_emptyk {a0 : Nat} {σ : Sto} {r : Unit × Sto} (h : fX8_empty a0 σ = some r) : ∃ fs, hs_o σ 8 a0 = some fs := (ck_of h).1
def fX8_keep (a0 : Nat) (a1 : Int32) (a2 : Nat) (σ : Sto) : Option (Int32 × Sto) := ck σ 8 a0 (if a1 < 0 then (some ((0 : Int32), σ)) else (if a1 < (3 : Int32) then ((gR σ 8 a0 0).bind fun t1 => ((aR σ 5 t1 a1).bind fun t2 => (cb (fX5_copyFrom t2 a2 σ) fun _ σ3 => ((gR σ3 8 a0 1).bind fun t4 => ((sI σ3 4 t4 a1 ((1 : Int32))).bind fun σ5 => (some ((1 : Int32), σ5))))))) else (some ((0 : Int32), σ))))
set_option maxHeartbeats 2000000 in
theorem kX8_keep (G : GP) (a0 : Nat) (a1 : Int32) (a2 : Nat) (σ : Sto) : Me G mX8_keep 3 0 0 jI [.ref a0, .int a1, .ref a2] σ (fX8_keep a0 a1 a2 σ) := by
  refine hs_me (lv := [(0, .ref a0), (1, .int a1), (2, .ref a2)]) (plainFor_of_name (by decide +kernel)) (Nat.le_of_ble_eq_true rfl) rfl ?_
  unfold fX8_keep
  refine hj_ck ?_
  refine hj_iload_n 1 dX8_keep_0 rfl ?_
  refine hj_if_lt 9 dX8_keep_1 (by decide) (fun _ => ?_) (fun _ => ?_)
  · refine hj_iconst (0 : Int32) dX8_keep_9 (by decide) ?_
    exact hj_zret dX8_keep_10 rfl (by decide) rfl (Nat.le_refl _)
  · refine hj_iload_n 1 dX8_keep_4 rfl ?_
    refine hj_iconst (3 : Int32) dX8_keep_5 (by decide) ?_
    refine hj_icmp_lt 11 dX8_keep_6 (by decide) (fun _ => ?_) (fun _ => ?_)
    · refine hj_aload_n 0 dX8_keep_11 rfl ?_
      refine hj_getR flX8_11 dX8_keep_12 (fun t1 _ => ?_)
      refine hj_iload_n 1 dX8_keep_15 rfl ?_
      refine hj_aald5 dX8_keep_16 (fun t2 _ => ?_)
      refine hj_aload_n 2 dX8_keep_17 rfl ?_
      refine hj_callV (ci := 5) (M' := mX5_copyFrom) (h' := 2) (As := [.ref a2]) mfX5_copyFrom mvX5_copyFrom ⟨_, _, rfl⟩ mlX8_22 dX8_keep_18 (kX5_copyFrom G _ _ _) (fun _ hr => cX5_copyFromk hr) ⟨Nat.le_of_ble_eq_true rfl, Nat.le_of_ble_eq_true rfl⟩ ⟨Nat.le_refl _, Nat.le_refl _⟩ rfl (Nat.le_of_ble_eq_true rfl) (fun _ σ3 _ => ?_)
      refine hj_aload_n 0 dX8_keep_21 rfl ?_
      refine hj_getR flX8_17 dX8_keep_22 (fun t4 _ => ?_)
      refine hj_iload_n 1 dX8_keep_25 rfl ?_
      refine hj_iconst (1 : Int32) dX8_keep_26 (by decide) ?_
      refine hj_zast dX8_keep_27 (fun σ5 _ => ?_)
      refine hj_iconst (1 : Int32) dX8_keep_28 (by decide) ?_
      exact hj_zret dX8_keep_29 rfl (by decide) rfl (Nat.le_refl _)
    · refine hj_iconst (0 : Int32) dX8_keep_9 (by decide) ?_
      exact hj_zret dX8_keep_10 rfl (by decide) rfl (Nat.le_refl _)
theorem cX8_keepk {a0 : Nat} {a1 : Int32} {a2 : Nat} {σ : Sto} {r : Int32 × Sto} (h : fX8_keep a0 a1 a2 σ = some r) : ∃ fs, hs_o σ 8 a0 = some fs := (ck_of h).1
def fX8_giveBack (a0 : Nat) (a1 : Int32) (a2 : Nat) (σ : Sto) : Option (Int32 × Sto) := ck σ 8 a0 (if a1 < 0 then (some ((0 : Int32), σ)) else (if (3 : Int32) ≤ a1 then (some ((0 : Int32), σ)) else ((gR σ 8 a0 1).bind fun t1 => ((aI σ 4 t1 a1).bind fun t2 => (if t2 = 0 then (some ((0 : Int32), σ)) else ((gR σ 8 a0 0).bind fun t3 => ((aR σ 5 t3 a1).bind fun t4 => (cb (fX5_copyFrom a2 t4 σ) fun _ σ5 => (some ((1 : Int32), σ5))))))))))
set_option maxHeartbeats 2000000 in
theorem kX8_giveBack (G : GP) (a0 : Nat) (a1 : Int32) (a2 : Nat) (σ : Sto) : Me G mX8_giveBack 3 0 0 jI [.ref a0, .int a1, .ref a2] σ (fX8_giveBack a0 a1 a2 σ) := by
  refine hs_me (lv := [(0, .ref a0), (1, .int a1), (2, .ref a2)]) (plainFor_of_name (by decide +kernel)) (Nat.le_of_ble_eq_true rfl) rfl ?_
  unfold fX8_giveBack
  refine hj_ck ?_
  refine hj_iload_n 1 dX8_giveBack_0 rfl ?_
  refine hj_if_lt 18 dX8_giveBack_1 (by decide) (fun _ => ?_) (fun _ => ?_)
  · refine hj_iconst (0 : Int32) dX8_giveBack_18 (by decide) ?_
    exact hj_zret dX8_giveBack_19 rfl (by decide) rfl (Nat.le_refl _)
  · refine hj_iload_n 1 dX8_giveBack_4 rfl ?_
    refine hj_iconst (3 : Int32) dX8_giveBack_5 (by decide) ?_
    refine hj_icmp_ge 18 dX8_giveBack_6 (by decide) (fun _ => ?_) (fun _ => ?_)
    · refine hj_iconst (0 : Int32) dX8_giveBack_18 (by decide) ?_
      exact hj_zret dX8_giveBack_19 rfl (by decide) rfl (Nat.le_refl _)
    · refine hj_aload_n 0 dX8_giveBack_9 rfl ?_
      refine hj_getR flX8_17 dX8_giveBack_10 (fun t1 _ => ?_)
      refine hj_iload_n 1 dX8_giveBack_13 rfl ?_
      refine hj_zald dX8_giveBack_14 (fun t2 _ => ?_)
      refine hj_if_ne 20 dX8_giveBack_15 (by decide) (fun _ => ?_) (fun _ => ?_)
      · refine hj_aload_n 2 dX8_giveBack_20 rfl ?_
        refine hj_aload_n 0 dX8_giveBack_21 rfl ?_
        refine hj_getR flX8_11 dX8_giveBack_22 (fun t3 _ => ?_)
        refine hj_iload_n 1 dX8_giveBack_25 rfl ?_
        refine hj_aald5 dX8_giveBack_26 (fun t4 _ => ?_)
        refine hj_callV (ci := 5) (M' := mX5_copyFrom) (h' := 2) (As := [.ref t4]) mfX5_copyFrom mvX5_copyFrom ⟨_, _, rfl⟩ mlX8_22 dX8_giveBack_27 (kX5_copyFrom G _ _ _) (fun _ hr => cX5_copyFromk hr) ⟨Nat.le_of_ble_eq_true rfl, Nat.le_of_ble_eq_true rfl⟩ ⟨Nat.le_refl _, Nat.le_refl _⟩ rfl (Nat.le_of_ble_eq_true rfl) (fun _ σ5 _ => ?_)
        refine hj_iconst (1 : Int32) dX8_giveBack_30 (by decide) ?_
        exact hj_zret dX8_giveBack_31 rfl (by decide) rfl (Nat.le_refl _)
      · refine hj_iconst (0 : Int32) dX8_giveBack_18 (by decide) ?_
        exact hj_zret dX8_giveBack_19 rfl (by decide) rfl (Nat.le_refl _)
theorem cX8_giveBackk {a0 : Nat} {a1 : Int32} {a2 : Nat} {σ : Sto} {r : Int32 × Sto} (h : fX8_giveBack a0 a1 a2 σ = some r) : ∃ fs, hs_o σ 8 a0 = some fs := (ck_of h).1
def fX8_filled_b24 (K4 : Nat → Int32 → Int32 → Sto → Option (Int32 × Sto)) (x0 : Nat) (x2 : Int32) (y0 : Int32) (y1 : Int32) (σ : Sto) : Option (Int32 × Sto) := (lt ((y0 + y1)) fun v1 => (K4 x0 v1 (x2 + (1 : Int32)) σ))
set_option maxHeartbeats 2000000 in
theorem sX8_filled_b24 {G : GP} {n0 : Nat} {K4 : Nat → Int32 → Int32 → Sto → Option (Int32 × Sto)} (hK4 : ∀ (x0 : Nat) (x1 : Int32) (x2 : Int32) (σ : Sto), Sim G mX8_filled 1 0 0 n0 jI 0 0 4 [(0, .ref x0), (1, .int x1), (2, .int x2)] [] σ (K4 x0 x1 x2 σ)) : ∀ (x0 : Nat) (x2 : Int32) (y0 : Int32) (y1 : Int32) (σ : Sto), Sim G mX8_filled 1 0 0 n0 jI 0 0 24 [(0, .ref x0), (2, .int x2)] [.int y1, .int y0] σ (fX8_filled_b24 K4 x0 x2 y0 y1 σ) := by
  intro x0 x2 y0 y1 σ
  unfold fX8_filled_b24
  refine hj_iadd dX8_filled_24 ?_
  refine hj_ltI (fun v1 _ => ?_)
  refine hj_istore_n (lv' := [(0, .ref x0), (1, .int v1), (2, .int x2)]) dX8_filled_25 (by decide) [1, 0, 2] rfl ?_
  refine hj_iinc (lv' := [(0, .ref x0), (1, .int v1), (2, .int (x2 + (1 : Int32)))]) 2 (1 : Int32) dX8_filled_26 rfl (by decide) (by decide) [1, 2, 0] rfl ?_
  refine hj_goto 4 dX8_filled_29 (by decide) ?_
  refine hj_loc (lv' := [(0, .ref x0), (1, .int v1), (2, .int (x2 + (1 : Int32)))]) [0, 1, 2] rfl ?_
  exact hK4 _ _ _ _
def fX8_filled_b4 : Nat → Nat → Int32 → Int32 → Sto → Option (Int32 × Sto)
  | 0, _, _, _, _ => none
  | n + 1, x0, x1, x2, σ => (if (3 : Int32) ≤ x2 then (some (x1, σ)) else ((gR σ 8 x0 1).bind fun t2 => ((aI σ 4 t2 x2).bind fun t3 => (if t3 = 0 then (fX8_filled_b24 (fX8_filled_b4 n) x0 x2 x1 ((0 : Int32)) σ) else (fX8_filled_b24 (fX8_filled_b4 n) x0 x2 x1 ((1 : Int32)) σ)))))
set_option maxHeartbeats 2000000 in
theorem sX8_filled_b4 {G : GP} {n0 : Nat} : ∀ (n : Nat) (x0 : Nat) (x1 : Int32) (x2 : Int32) (σ : Sto), Sim G mX8_filled 1 0 0 n0 jI 0 0 4 [(0, .ref x0), (1, .int x1), (2, .int x2)] [] σ (fX8_filled_b4 n x0 x1 x2 σ) := by
  intro n
  induction n with
  | zero => intros; rw [fX8_filled_b4]; exact hj_none
  | succ n ih =>
    intro x0 x1 x2 σ
    rw [fX8_filled_b4]
    refine hj_iload_n 2 dX8_filled_4 rfl ?_
    refine hj_iconst (3 : Int32) dX8_filled_5 (by decide) ?_
    refine hj_icmp_ge 32 dX8_filled_6 (by decide) (fun _ => ?_) (fun _ => ?_)
    · refine hj_iload_n 1 dX8_filled_32 rfl ?_
      exact hj_iret dX8_filled_33 rfl rfl (Nat.le_refl _)
    · refine hj_iload_n 1 dX8_filled_9 rfl ?_
      refine hj_aload_n 0 dX8_filled_10 rfl ?_
      refine hj_getR flX8_17 dX8_filled_11 (fun t2 _ => ?_)
      refine hj_iload_n 2 dX8_filled_14 rfl ?_
      refine hj_zald dX8_filled_15 (fun t3 _ => ?_)
      refine hj_if_eq 23 dX8_filled_16 (by decide) (fun _ => ?_) (fun _ => ?_)
      · refine hj_iconst (0 : Int32) dX8_filled_23 (by decide) ?_
        refine hj_loc (lv' := [(0, .ref x0), (2, .int x2)]) [0, 2] rfl ?_
        exact sX8_filled_b24 ih _ _ _ _ _
      · refine hj_iconst (1 : Int32) dX8_filled_19 (by decide) ?_
        refine hj_goto 24 dX8_filled_20 (by decide) ?_
        refine hj_loc (lv' := [(0, .ref x0), (2, .int x2)]) [0, 2] rfl ?_
        exact sX8_filled_b24 ih _ _ _ _ _
def fX8_filled (a0 : Nat) (σ : Sto) : Option (Int32 × Sto) := ck σ 8 a0 (fX8_filled_b4 FU a0 ((0 : Int32)) ((0 : Int32)) σ)
set_option maxHeartbeats 2000000 in
theorem kX8_filled (G : GP) (a0 : Nat) (σ : Sto) : Me G mX8_filled 1 0 0 jI [.ref a0] σ (fX8_filled a0 σ) := by
  refine hs_me (lv := [(0, .ref a0)]) (plainFor_of_name (by decide +kernel)) (Nat.le_of_ble_eq_true rfl) rfl ?_
  unfold fX8_filled
  refine hj_ck ?_
  refine hj_iconst (0 : Int32) dX8_filled_0 (by decide) ?_
  refine hj_istore_n (lv' := [(0, .ref a0), (1, .int (0 : Int32))]) dX8_filled_1 (by decide) [1, 0] rfl ?_
  refine hj_iconst (0 : Int32) dX8_filled_2 (by decide) ?_
  refine hj_istore_n (lv' := [(0, .ref a0), (1, .int (0 : Int32)), (2, .int (0 : Int32))]) dX8_filled_3 (by decide) [1, 2, 0] rfl ?_
  refine hj_loc (lv' := [(0, .ref a0), (1, .int (0 : Int32)), (2, .int (0 : Int32))]) [0, 1, 2] rfl ?_
  exact sX8_filled_b4 _ _ _ _ _
theorem cX8_filledk {a0 : Nat} {σ : Sto} {r : Int32 × Sto} (h : fX8_filled a0 σ = some r) : ∃ fs, hs_o σ 8 a0 = some fs := (ck_of h).1
