def fX12_leftOf (a0 : Nat) (a1 : Int32) (σ : Sto) : Option (Int32 × Sto) := ck σ 12 a0 ((gR σ 12 a0 48).bind fun t1 => ((aI σ 2 t1 ((((6 : Int32)) + a1))).bind fun t2 => (cb (fX12_leftBelow a0 a1 σ) fun r4 σ3 => (if t2 ≤ r4 then (cb (fX12_leftBelow a0 a1 σ3) fun r6 σ5 => (some (r6, σ5))) else ((gR σ3 12 a0 48).bind fun t7 => ((aI σ3 2 t7 ((((6 : Int32)) + a1))).bind fun t8 => (some (t8, σ3))))))))
set_option maxHeartbeats 2000000 in
theorem kX12_leftOf (G : GP) (a0 : Nat) (a1 : Int32) (σ : Sto) : Me G mX12_leftOf 2 0 0 jI [.ref a0, .int a1] σ (fX12_leftOf a0 a1 σ) := by
  refine hs_me (lv := [(0, .ref a0), (1, .int a1)]) (plainFor_of_name (by decide +kernel)) (Nat.le_of_ble_eq_true rfl) rfl ?_
  unfold fX12_leftOf
  refine hj_ck ?_
  refine hj_aload_n 0 dX12_leftOf_0 rfl ?_
  refine hj_getR flX12_110 dX12_leftOf_1 (fun t1 _ => ?_)
  refine hj_bipush (6 : Int32) dX12_leftOf_4 (by decide) ?_
  refine hj_iload_n 1 dX12_leftOf_6 rfl ?_
  refine hj_iadd dX12_leftOf_7 ?_
  refine hj_iald dX12_leftOf_8 (fun t2 _ => ?_)
  refine hj_aload_n 0 dX12_leftOf_9 rfl ?_
  refine hj_iload_n 1 dX12_leftOf_10 rfl ?_
  refine hj_callV (ci := 12) (M' := mX12_leftBelow) (h' := 1) (As := [.int a1]) mfX12_leftBelow mvX12_leftBelow ⟨_, _, rfl⟩ mlX12_325 dX12_leftOf_11 (kX12_leftBelow G _ _ _) (fun _ hr => cX12_leftBelowk hr) ⟨Nat.le_of_ble_eq_true rfl, Nat.le_of_ble_eq_true rfl⟩ ⟨Nat.le_refl _, Nat.le_refl _⟩ rfl (Nat.le_of_ble_eq_true rfl) (fun r4 σ3 _ => ?_)
  refine hj_icmp_le 29 dX12_leftOf_14 (by decide) (fun _ => ?_) (fun _ => ?_)
  · refine hj_aload_n 0 dX12_leftOf_29 rfl ?_
    refine hj_iload_n 1 dX12_leftOf_30 rfl ?_
    refine hj_callV (ci := 12) (M' := mX12_leftBelow) (h' := 1) (As := [.int a1]) mfX12_leftBelow mvX12_leftBelow ⟨_, _, rfl⟩ mlX12_325 dX12_leftOf_31 (kX12_leftBelow G _ _ _) (fun _ hr => cX12_leftBelowk hr) ⟨Nat.le_of_ble_eq_true rfl, Nat.le_of_ble_eq_true rfl⟩ ⟨Nat.le_refl _, Nat.le_refl _⟩ rfl (Nat.le_of_ble_eq_true rfl) (fun r6 σ5 _ => ?_)
    exact hj_iret dX12_leftOf_34 rfl rfl (Nat.le_refl _)
  · refine hj_aload_n 0 dX12_leftOf_17 rfl ?_
    refine hj_getR flX12_110 dX12_leftOf_18 (fun t7 _ => ?_)
    refine hj_bipush (6 : Int32) dX12_leftOf_21 (by decide) ?_
    refine hj_iload_n 1 dX12_leftOf_23 rfl ?_
    refine hj_iadd dX12_leftOf_24 ?_
    refine hj_iald dX12_leftOf_25 (fun t8 _ => ?_)
    refine hj_goto 34 dX12_leftOf_26 (by decide) ?_
    exact hj_iret dX12_leftOf_34 rfl rfl (Nat.le_refl _)
theorem cX12_leftOfk {a0 : Nat} {a1 : Int32} {σ : Sto} {r : Int32 × Sto} (h : fX12_leftOf a0 a1 σ = some r) : ∃ fs, hs_o σ 12 a0 = some fs := (ck_of h).1
def fX12_rightOf (a0 : Nat) (a1 : Int32) (σ : Sto) : Option (Int32 × Sto) := ck σ 12 a0 ((gR σ 12 a0 48).bind fun t1 => ((aI σ 2 t1 ((((6 : Int32)) + a1))).bind fun t2 => (cb (fX12_longAt a0 a1 σ) fun r4 σ3 => (lt ((t2 + r4)) fun v5 => (cb (fX12_rightBelow a0 a1 σ3) fun r7 σ6 => (if r7 ≤ v5 then (cb (fX12_rightBelow a0 a1 σ6) fun r9 σ8 => (some (r9, σ8))) else (some (v5, σ6))))))))
set_option maxHeartbeats 2000000 in
theorem kX12_rightOf (G : GP) (a0 : Nat) (a1 : Int32) (σ : Sto) : Me G mX12_rightOf 3 0 0 jI [.ref a0, .int a1] σ (fX12_rightOf a0 a1 σ) := by
  refine hs_me (lv := [(0, .ref a0), (1, .int a1)]) (plainFor_of_name (by decide +kernel)) (Nat.le_of_ble_eq_true rfl) rfl ?_
  unfold fX12_rightOf
  refine hj_ck ?_
  refine hj_aload_n 0 dX12_rightOf_0 rfl ?_
  refine hj_getR flX12_110 dX12_rightOf_1 (fun t1 _ => ?_)
  refine hj_bipush (6 : Int32) dX12_rightOf_4 (by decide) ?_
  refine hj_iload_n 1 dX12_rightOf_6 rfl ?_
  refine hj_iadd dX12_rightOf_7 ?_
  refine hj_iald dX12_rightOf_8 (fun t2 _ => ?_)
  refine hj_aload_n 0 dX12_rightOf_9 rfl ?_
  refine hj_iload_n 1 dX12_rightOf_10 rfl ?_
  refine hj_callV (ci := 12) (M' := mX12_longAt) (h' := 1) (As := [.int a1]) mfX12_longAt mvX12_longAt ⟨_, _, rfl⟩ mlX12_317 dX12_rightOf_11 (kX12_longAt G _ _ _) (fun _ hr => cX12_longAtk hr) ⟨Nat.le_of_ble_eq_true rfl, Nat.le_of_ble_eq_true rfl⟩ ⟨Nat.le_refl _, Nat.le_refl _⟩ rfl (Nat.le_of_ble_eq_true rfl) (fun r4 σ3 _ => ?_)
  refine hj_iadd dX12_rightOf_14 ?_
  refine hj_ltI (fun v5 _ => ?_)
  refine hj_istore_n (lv' := [(0, .ref a0), (1, .int a1), (2, .int v5)]) dX12_rightOf_15 (by decide) [1, 2, 0] rfl ?_
  refine hj_iload_n 2 dX12_rightOf_16 rfl ?_
  refine hj_aload_n 0 dX12_rightOf_17 rfl ?_
  refine hj_iload_n 1 dX12_rightOf_18 rfl ?_
  refine hj_callV (ci := 12) (M' := mX12_rightBelow) (h' := 2) (As := [.int a1]) mfX12_rightBelow mvX12_rightBelow ⟨_, _, rfl⟩ mlX12_328 dX12_rightOf_19 (kX12_rightBelow G _ _ _) (fun _ hr => cX12_rightBelowk hr) ⟨Nat.le_of_ble_eq_true rfl, Nat.le_of_ble_eq_true rfl⟩ ⟨Nat.le_refl _, Nat.le_refl _⟩ rfl (Nat.le_of_ble_eq_true rfl) (fun r7 σ6 _ => ?_)
  refine hj_icmp_ge 29 dX12_rightOf_22 (by decide) (fun _ => ?_) (fun _ => ?_)
  · refine hj_aload_n 0 dX12_rightOf_29 rfl ?_
    refine hj_iload_n 1 dX12_rightOf_30 rfl ?_
    refine hj_callV (ci := 12) (M' := mX12_rightBelow) (h' := 2) (As := [.int a1]) mfX12_rightBelow mvX12_rightBelow ⟨_, _, rfl⟩ mlX12_328 dX12_rightOf_31 (kX12_rightBelow G _ _ _) (fun _ hr => cX12_rightBelowk hr) ⟨Nat.le_of_ble_eq_true rfl, Nat.le_of_ble_eq_true rfl⟩ ⟨Nat.le_refl _, Nat.le_refl _⟩ rfl (Nat.le_of_ble_eq_true rfl) (fun r9 σ8 _ => ?_)
    exact hj_iret dX12_rightOf_34 rfl rfl (Nat.le_refl _)
  · refine hj_iload_n 2 dX12_rightOf_25 rfl ?_
    refine hj_goto 34 dX12_rightOf_26 (by decide) ?_
    exact hj_iret dX12_rightOf_34 rfl rfl (Nat.le_refl _)
theorem cX12_rightOfk {a0 : Nat} {a1 : Int32} {σ : Sto} {r : Int32 × Sto} (h : fX12_rightOf a0 a1 σ = some r) : ∃ fs, hs_o σ 12 a0 = some fs := (ck_of h).1
def fX12_isStanding_b19 (x0 : Nat) (x1 : Int32) (σ : Sto) : Option (Int32 × Sto) := ((gR σ 12 x0 53).bind fun t1 => ((aL σ 3 t1 x1).bind fun t2 => (lt ((((2 : Int64)) * t2)) fun v3 => (cb (fX12_leftOf x0 x1 σ) fun r5 σ4 => (cb (fX12_rightOf x0 x1 σ4) fun r7 σ6 => (if r7 < r5 then (some ((0 : Int32), σ6)) else ((gR σ6 12 x0 54).bind fun t8 => ((aL σ6 3 t8 x1).bind fun t9 => (cb (fX12_leftOf x0 x1 σ6) fun r11 σ10 => (if (lg_cmp t9 ((v3 * ((r11.toInt64))))) < 0 then (some ((0 : Int32), σ10)) else ((gR σ10 12 x0 54).bind fun t12 => ((aL σ10 3 t12 x1).bind fun t13 => (cb (fX12_rightOf x0 x1 σ10) fun r15 σ14 => (if 0 < (lg_cmp t13 ((v3 * ((r15.toInt64))))) then (some ((0 : Int32), σ14)) else (some ((1 : Int32), σ14))))))))))))))))
set_option maxHeartbeats 2000000 in
theorem sX12_isStanding_b19 {G : GP} {n0 : Nat} : ∀ (x0 : Nat) (x1 : Int32) (σ : Sto), Sim G mX12_isStanding 4 0 0 n0 jI 0 0 19 [(0, .ref x0), (1, .int x1)] [] σ (fX12_isStanding_b19 x0 x1 σ) := by
  intro x0 x1 σ
  unfold fX12_isStanding_b19
  refine hj_ldc2 (2 : Int64) kcX12_320 dX12_isStanding_19 ?_
  refine hj_aload_n 0 dX12_isStanding_22 rfl ?_
  refine hj_getR flX12_116 dX12_isStanding_23 (fun t1 _ => ?_)
  refine hj_iload_n 1 dX12_isStanding_26 rfl ?_
  refine hj_lald dX12_isStanding_27 (fun t2 _ => ?_)
  refine hj_lmul dX12_isStanding_28 ?_
  refine hj_ltJ (fun v3 _ => ?_)
  refine hj_lstore_n (lv' := [(0, .ref x0), (1, .int x1), (2, .long v3)]) dX12_isStanding_29 (by decide) [1, 2, 0] rfl ?_
  refine hj_aload_n 0 dX12_isStanding_30 rfl ?_
  refine hj_iload_n 1 dX12_isStanding_31 rfl ?_
  refine hj_callV (ci := 12) (M' := mX12_leftOf) (h' := 2) (As := [.int x1]) mfX12_leftOf mvX12_leftOf ⟨_, _, rfl⟩ mlX12_331 dX12_isStanding_32 (kX12_leftOf G _ _ _) (fun _ hr => cX12_leftOfk hr) ⟨Nat.le_of_ble_eq_true rfl, Nat.le_of_ble_eq_true rfl⟩ ⟨Nat.le_refl _, Nat.le_refl _⟩ rfl (Nat.le_of_ble_eq_true rfl) (fun r5 σ4 _ => ?_)
  refine hj_aload_n 0 dX12_isStanding_35 rfl ?_
  refine hj_iload_n 1 dX12_isStanding_36 rfl ?_
  refine hj_callV (ci := 12) (M' := mX12_rightOf) (h' := 3) (As := [.int x1]) mfX12_rightOf mvX12_rightOf ⟨_, _, rfl⟩ mlX12_334 dX12_isStanding_37 (kX12_rightOf G _ _ _) (fun _ hr => cX12_rightOfk hr) ⟨Nat.le_of_ble_eq_true rfl, Nat.le_of_ble_eq_true rfl⟩ ⟨Nat.le_refl _, Nat.le_refl _⟩ rfl (Nat.le_of_ble_eq_true rfl) (fun r7 σ6 _ => ?_)
  refine hj_icmp_gt 83 dX12_isStanding_40 (by decide) (fun _ => ?_) (fun _ => ?_)
  · refine hj_iconst (0 : Int32) dX12_isStanding_83 (by decide) ?_
    exact hj_zret dX12_isStanding_84 rfl (by decide) rfl (Nat.le_refl _)
  · refine hj_aload_n 0 dX12_isStanding_43 rfl ?_
    refine hj_getR flX12_119 dX12_isStanding_44 (fun t8 _ => ?_)
    refine hj_iload_n 1 dX12_isStanding_47 rfl ?_
    refine hj_lald dX12_isStanding_48 (fun t9 _ => ?_)
    refine hj_lload_n 2 dX12_isStanding_49 rfl ?_
    refine hj_aload_n 0 dX12_isStanding_50 rfl ?_
    refine hj_iload_n 1 dX12_isStanding_51 rfl ?_
    refine hj_callV (ci := 12) (M' := mX12_leftOf) (h' := 2) (As := [.int x1]) mfX12_leftOf mvX12_leftOf ⟨_, _, rfl⟩ mlX12_331 dX12_isStanding_52 (kX12_leftOf G _ _ _) (fun _ hr => cX12_leftOfk hr) ⟨Nat.le_of_ble_eq_true rfl, Nat.le_of_ble_eq_true rfl⟩ ⟨Nat.le_refl _, Nat.le_refl _⟩ rfl (Nat.le_of_ble_eq_true rfl) (fun r11 σ10 _ => ?_)
    refine hj_i2l dX12_isStanding_55 ?_
    refine hj_lmul dX12_isStanding_56 ?_
    refine hj_lcmp dX12_isStanding_57 ?_
    refine hj_if_lt 83 dX12_isStanding_58 (by decide) (fun _ => ?_) (fun _ => ?_)
    · refine hj_iconst (0 : Int32) dX12_isStanding_83 (by decide) ?_
      exact hj_zret dX12_isStanding_84 rfl (by decide) rfl (Nat.le_refl _)
    · refine hj_aload_n 0 dX12_isStanding_61 rfl ?_
      refine hj_getR flX12_119 dX12_isStanding_62 (fun t12 _ => ?_)
      refine hj_iload_n 1 dX12_isStanding_65 rfl ?_
      refine hj_lald dX12_isStanding_66 (fun t13 _ => ?_)
      refine hj_lload_n 2 dX12_isStanding_67 rfl ?_
      refine hj_aload_n 0 dX12_isStanding_68 rfl ?_
      refine hj_iload_n 1 dX12_isStanding_69 rfl ?_
      refine hj_callV (ci := 12) (M' := mX12_rightOf) (h' := 3) (As := [.int x1]) mfX12_rightOf mvX12_rightOf ⟨_, _, rfl⟩ mlX12_334 dX12_isStanding_70 (kX12_rightOf G _ _ _) (fun _ hr => cX12_rightOfk hr) ⟨Nat.le_of_ble_eq_true rfl, Nat.le_of_ble_eq_true rfl⟩ ⟨Nat.le_refl _, Nat.le_refl _⟩ rfl (Nat.le_of_ble_eq_true rfl) (fun r15 σ14 _ => ?_)
      refine hj_i2l dX12_isStanding_73 ?_
      refine hj_lmul dX12_isStanding_74 ?_
      refine hj_lcmp dX12_isStanding_75 ?_
      refine hj_if_gt 83 dX12_isStanding_76 (by decide) (fun _ => ?_) (fun _ => ?_)
      · refine hj_iconst (0 : Int32) dX12_isStanding_83 (by decide) ?_
        exact hj_zret dX12_isStanding_84 rfl (by decide) rfl (Nat.le_refl _)
      · refine hj_iconst (1 : Int32) dX12_isStanding_79 (by decide) ?_
        refine hj_goto 84 dX12_isStanding_80 (by decide) ?_
        exact hj_zret dX12_isStanding_84 rfl (by decide) rfl (Nat.le_refl _)
def fX12_isStanding (a0 : Nat) (a1 : Int32) (σ : Sto) : Option (Int32 × Sto) := ck σ 12 a0 (if a1 ≤ 0 then (fX12_isStanding_b19 a0 a1 σ) else ((gR σ 12 a0 48).bind fun t16 => ((aI σ 2 t16 ((((12 : Int32)) + a1))).bind fun t17 => (if t17 = (1 : Int32) then (some ((1 : Int32), σ)) else (fX12_isStanding_b19 a0 a1 σ)))))
set_option maxHeartbeats 2000000 in
theorem kX12_isStanding (G : GP) (a0 : Nat) (a1 : Int32) (σ : Sto) : Me G mX12_isStanding 4 0 0 jI [.ref a0, .int a1] σ (fX12_isStanding a0 a1 σ) := by
  refine hs_me (lv := [(0, .ref a0), (1, .int a1)]) (plainFor_of_name (by decide +kernel)) (Nat.le_of_ble_eq_true rfl) rfl ?_
  unfold fX12_isStanding
  refine hj_ck ?_
  refine hj_iload_n 1 dX12_isStanding_0 rfl ?_
  refine hj_if_le 19 dX12_isStanding_1 (by decide) (fun _ => ?_) (fun _ => ?_)
  · refine hj_loc (lv' := [(0, .ref a0), (1, .int a1)]) [0, 1] rfl ?_
    exact sX12_isStanding_b19 _ _ _
  · refine hj_aload_n 0 dX12_isStanding_4 rfl ?_
    refine hj_getR flX12_110 dX12_isStanding_5 (fun t16 _ => ?_)
    refine hj_bipush (12 : Int32) dX12_isStanding_8 (by decide) ?_
    refine hj_iload_n 1 dX12_isStanding_10 rfl ?_
    refine hj_iadd dX12_isStanding_11 ?_
    refine hj_iald dX12_isStanding_12 (fun t17 _ => ?_)
    refine hj_iconst (1 : Int32) dX12_isStanding_13 (by decide) ?_
    refine hj_icmp_ne 19 dX12_isStanding_14 (by decide) (fun _ => ?_) (fun _ => ?_)
    · refine hj_loc (lv' := [(0, .ref a0), (1, .int a1)]) [0, 1] rfl ?_
      exact sX12_isStanding_b19 _ _ _
    · refine hj_iconst (1 : Int32) dX12_isStanding_17 (by decide) ?_
      exact hj_zret dX12_isStanding_18 rfl (by decide) rfl (Nat.le_refl _)
theorem cX12_isStandingk {a0 : Nat} {a1 : Int32} {σ : Sto} {r : Int32 × Sto} (h : fX12_isStanding a0 a1 σ = some r) : ∃ fs, hs_o σ 12 a0 = some fs := (ck_of h).1
def fX12_tipsAt_b6 : Nat → Nat → Int32 → Sto → Option (Int32 × Sto)
  | 0, _, _, _ => none
  | n + 1, x0, x1, σ => ((gR σ 12 x0 48).bind fun t1 => ((aI σ 2 t1 ((18 : Int32))).bind fun t2 => (if t2 ≤ x1 then (some ((-2 : Int32), σ)) else (cb (fX12_isStanding x0 x1 σ) fun r4 σ3 => (if r4 = 0 then (some (x1, σ3)) else (fX12_tipsAt_b6 n x0 (x1 + (1 : Int32)) σ3))))))
set_option maxHeartbeats 2000000 in
theorem sX12_tipsAt_b6 {G : GP} {n0 : Nat} : ∀ (n : Nat) (x0 : Nat) (x1 : Int32) (σ : Sto), Sim G mX12_tipsAt 5 0 0 n0 jI 0 0 6 [(0, .ref x0), (1, .int x1)] [] σ (fX12_tipsAt_b6 n x0 x1 σ) := by
  intro n
  induction n with
  | zero => intros; rw [fX12_tipsAt_b6]; exact hj_none
  | succ n ih =>
    intro x0 x1 σ
    rw [fX12_tipsAt_b6]
    refine hj_iload_n 1 dX12_tipsAt_6 rfl ?_
    refine hj_aload_n 0 dX12_tipsAt_7 rfl ?_
    refine hj_getR flX12_110 dX12_tipsAt_8 (fun t1 _ => ?_)
    refine hj_bipush (18 : Int32) dX12_tipsAt_11 (by decide) ?_
    refine hj_iald dX12_tipsAt_13 (fun t2 _ => ?_)
    refine hj_icmp_ge 33 dX12_tipsAt_14 (by decide) (fun _ => ?_) (fun _ => ?_)
    · refine hj_bipush (-2 : Int32) dX12_tipsAt_33 (by decide) ?_
      exact hj_iret dX12_tipsAt_35 rfl rfl (Nat.le_refl _)
    · refine hj_aload_n 0 dX12_tipsAt_17 rfl ?_
      refine hj_iload_n 1 dX12_tipsAt_18 rfl ?_
      refine hj_callV (ci := 12) (M' := mX12_isStanding) (h' := 4) (As := [.int x1]) mfX12_isStanding mvX12_isStanding ⟨_, _, rfl⟩ mlX12_340 dX12_tipsAt_19 (kX12_isStanding G _ _ _) (fun _ hr => cX12_isStandingk hr) ⟨Nat.le_of_ble_eq_true rfl, Nat.le_of_ble_eq_true rfl⟩ ⟨Nat.le_refl _, Nat.le_refl _⟩ rfl (Nat.le_of_ble_eq_true rfl) (fun r4 σ3 _ => ?_)
      refine hj_if_ne 27 dX12_tipsAt_22 (by decide) (fun _ => ?_) (fun _ => ?_)
      · refine hj_iinc (lv' := [(0, .ref x0), (1, .int (x1 + (1 : Int32)))]) 1 (1 : Int32) dX12_tipsAt_27 rfl (by decide) (by decide) [1, 0] rfl ?_
        refine hj_goto 6 dX12_tipsAt_30 (by decide) ?_
        refine hj_loc (lv' := [(0, .ref x0), (1, .int (x1 + (1 : Int32)))]) [0, 1] rfl ?_
        exact ih _ _ _
      · refine hj_iload_n 1 dX12_tipsAt_25 rfl ?_
        exact hj_iret dX12_tipsAt_26 rfl rfl (Nat.le_refl _)
def fX12_tipsAt (a0 : Nat) (σ : Sto) : Option (Int32 × Sto) := ck σ 12 a0 (cb (fX12_fillsLoads a0 σ) fun _ σ5 => (fX12_tipsAt_b6 FU a0 ((0 : Int32)) σ5))
set_option maxHeartbeats 2000000 in
theorem kX12_tipsAt (G : GP) (a0 : Nat) (σ : Sto) : Me G mX12_tipsAt 5 0 0 jI [.ref a0] σ (fX12_tipsAt a0 σ) := by
  refine hs_me (lv := [(0, .ref a0)]) (plainFor_of_name (by decide +kernel)) (Nat.le_of_ble_eq_true rfl) rfl ?_
  unfold fX12_tipsAt
  refine hj_ck ?_
  refine hj_aload_n 0 dX12_tipsAt_0 rfl ?_
  refine hj_callV (ci := 12) (M' := mX12_fillsLoads) (h' := 4) (As := []) mfX12_fillsLoads mvX12_fillsLoads ⟨_, _, rfl⟩ mlX12_337 dX12_tipsAt_1 (kX12_fillsLoads G _ _) (fun _ hr => cX12_fillsLoadsk hr) ⟨Nat.le_of_ble_eq_true rfl, Nat.le_of_ble_eq_true rfl⟩ ⟨Nat.le_refl _, Nat.le_refl _⟩ rfl (Nat.le_of_ble_eq_true rfl) (fun _ σ5 _ => ?_)
  refine hj_iconst (0 : Int32) dX12_tipsAt_4 (by decide) ?_
  refine hj_istore_n (lv' := [(0, .ref a0), (1, .int (0 : Int32))]) dX12_tipsAt_5 (by decide) [1, 0] rfl ?_
  refine hj_loc (lv' := [(0, .ref a0), (1, .int (0 : Int32))]) [0, 1] rfl ?_
  exact sX12_tipsAt_b6 _ _ _ _
theorem cX12_tipsAtk {a0 : Nat} {σ : Sto} {r : Int32 × Sto} (h : fX12_tipsAt a0 σ = some r) : ∃ fs, hs_o σ 12 a0 = some fs := (ck_of h).1
def fX12_book (a0 : Nat) (a1 : Int32) (a2 : Int32) (σ : Sto) : Option (Int32 × Sto) := ck σ 12 a0 (cb (fX12_isBook a0 a1 σ) fun r2 σ1 => (if r2 = 0 then (some ((-10000 : Int32), σ1)) else (cb (fX12_copies a0 σ1) fun _ σ3 => (cb (fX12_levelOf a0 a1 σ3) fun r5 σ4 => (if a2 = (0 : Int32) then ((gR σ4 12 a0 23).bind fun t18 => ((gI σ4 12 a0 18).bind fun t19 => ((aI σ4 2 t18 ((((((6 : Int32)) * t19)) + a1))).bind fun t20 => (some (t20, σ4))))) else (if a2 = (1 : Int32) then ((gR σ4 12 a0 24).bind fun t15 => ((gI σ4 12 a0 18).bind fun t16 => ((aI σ4 2 t15 ((((((6 : Int32)) * t16)) + a1))).bind fun t17 => (some (t17, σ4))))) else (if a2 = (2 : Int32) then (if 0 ≤ r5 then (cb (fX12_weighsAt a0 r5 σ4) fun r11 σ10 => (some (r11, σ10))) else ((gR σ4 12 a0 24).bind fun t12 => ((gI σ4 12 a0 18).bind fun t13 => ((aI σ4 2 t12 ((((((6 : Int32)) * t13)) + a1))).bind fun t14 => (some (t14, σ4)))))) else (if a2 = (3 : Int32) then (some (r5, σ4)) else (if a2 = (4 : Int32) then (if 0 ≤ r5 then ((gR σ4 12 a0 48).bind fun t8 => ((aI σ4 2 t8 ((((6 : Int32)) + r5))).bind fun t9 => (some (t9, σ4)))) else (some ((-1000 : Int32), σ4))) else (if a2 = (5 : Int32) then (if 0 ≤ r5 then ((gR σ4 12 a0 48).bind fun t6 => ((aI σ4 2 t6 ((((12 : Int32)) + r5))).bind fun t7 => (some (t7, σ4)))) else (some ((0 : Int32), σ4))) else (some ((-10000 : Int32), σ4))))))))))))
set_option maxHeartbeats 2000000 in
theorem kX12_book (G : GP) (a0 : Nat) (a1 : Int32) (a2 : Int32) (σ : Sto) : Me G mX12_book 4 0 0 jI [.ref a0, .int a1, .int a2] σ (fX12_book a0 a1 a2 σ) := by
  refine hs_me (lv := [(0, .ref a0), (1, .int a1), (2, .int a2)]) (plainFor_of_name (by decide +kernel)) (Nat.le_of_ble_eq_true rfl) rfl ?_
  unfold fX12_book
  refine hj_ck ?_
  refine hj_aload_n 0 dX12_book_0 rfl ?_
  refine hj_iload_n 1 dX12_book_1 rfl ?_
  refine hj_callV (ci := 12) (M' := mX12_isBook) (h' := 2) (As := [.int a1]) mfX12_isBook mvX12_isBook ⟨_, _, rfl⟩ mlX12_343 dX12_book_2 (kX12_isBook G _ _ _) (fun _ hr => cX12_isBookk hr) ⟨Nat.le_of_ble_eq_true rfl, Nat.le_of_ble_eq_true rfl⟩ ⟨Nat.le_refl _, Nat.le_refl _⟩ rfl (Nat.le_of_ble_eq_true rfl) (fun r2 σ1 _ => ?_)
  refine hj_if_ne 12 dX12_book_5 (by decide) (fun _ => ?_) (fun _ => ?_)
  · refine hj_aload_n 0 dX12_book_12 rfl ?_
    refine hj_callV (ci := 12) (M' := mX12_copies) (h' := 1) (As := []) mfX12_copies mvX12_copies ⟨_, _, rfl⟩ mlX12_346 dX12_book_13 (kX12_copies G _ _) (fun _ hr => cX12_copiesk hr) ⟨Nat.le_of_ble_eq_true rfl, Nat.le_of_ble_eq_true rfl⟩ ⟨Nat.le_refl _, Nat.le_refl _⟩ rfl (Nat.le_of_ble_eq_true rfl) (fun _ σ3 _ => ?_)
    refine hj_aload_n 0 dX12_book_16 rfl ?_
    refine hj_iload_n 1 dX12_book_17 rfl ?_
    refine hj_callV (ci := 12) (M' := mX12_levelOf) (h' := 1) (As := [.int a1]) mfX12_levelOf mvX12_levelOf ⟨_, _, rfl⟩ mlX12_349 dX12_book_18 (kX12_levelOf G _ _ _) (fun _ hr => cX12_levelOfk hr) ⟨Nat.le_of_ble_eq_true rfl, Nat.le_of_ble_eq_true rfl⟩ ⟨Nat.le_refl _, Nat.le_refl _⟩ rfl (Nat.le_of_ble_eq_true rfl) (fun r5 σ4 _ => ?_)
    refine hj_istore_n (lv' := [(0, .ref a0), (1, .int a1), (2, .int a2), (3, .int r5)]) dX12_book_21 (by decide) [1, 2, 3, 0] rfl ?_
    refine hj_iload_n 2 dX12_book_22 rfl ?_
    refine hj_ite (fun n0 => ?_) (fun n0 => ?_)
    · refine hj_tin (0 : Int32) (37) 60 dX12_book_23 n0 (by decide) (by decide) (by decide) (by decide) ?_
      refine hj_aload_n 0 dX12_book_60 rfl ?_
      refine hj_getR flX12_46 dX12_book_61 (fun t18 _ => ?_)
      refine hj_bipush (6 : Int32) dX12_book_64 (by decide) ?_
      refine hj_aload_n 0 dX12_book_66 rfl ?_
      refine hj_getI flX12_221 dX12_book_67 (fun t19 _ => ?_)
      refine hj_imul dX12_book_70 ?_
      refine hj_iload_n 1 dX12_book_71 rfl ?_
      refine hj_iadd dX12_book_72 ?_
      refine hj_iald dX12_book_73 (fun t20 _ => ?_)
      exact hj_iret dX12_book_74 rfl rfl (Nat.le_refl _)
    · refine hj_ite (fun n1 => ?_) (fun n1 => ?_)
      · refine hj_tin (1 : Int32) (52) 75 dX12_book_23 n1 (by decide) (by decide) (by decide) (by decide) ?_
        refine hj_aload_n 0 dX12_book_75 rfl ?_
        refine hj_getR flX12_49 dX12_book_76 (fun t15 _ => ?_)
        refine hj_bipush (6 : Int32) dX12_book_79 (by decide) ?_
        refine hj_aload_n 0 dX12_book_81 rfl ?_
        refine hj_getI flX12_221 dX12_book_82 (fun t16 _ => ?_)
        refine hj_imul dX12_book_85 ?_
        refine hj_iload_n 1 dX12_book_86 rfl ?_
        refine hj_iadd dX12_book_87 ?_
        refine hj_iald dX12_book_88 (fun t17 _ => ?_)
        exact hj_iret dX12_book_89 rfl rfl (Nat.le_refl _)
      · refine hj_ite (fun n2 => ?_) (fun n2 => ?_)
        · refine hj_tin (2 : Int32) (67) 90 dX12_book_23 n2 (by decide) (by decide) (by decide) (by decide) ?_
          refine hj_iload_n 3 dX12_book_90 rfl ?_
          refine hj_if_ge 111 dX12_book_91 (by decide) (fun _ => ?_) (fun _ => ?_)
          · refine hj_aload_n 0 dX12_book_111 rfl ?_
            refine hj_iload_n 3 dX12_book_112 rfl ?_
            refine hj_callV (ci := 12) (M' := mX12_weighsAt) (h' := 3) (As := [.int r5]) mfX12_weighsAt mvX12_weighsAt ⟨_, _, rfl⟩ mlX12_314 dX12_book_113 (kX12_weighsAt G _ _ _) (fun _ hr => cX12_weighsAtk hr) ⟨Nat.le_of_ble_eq_true rfl, Nat.le_of_ble_eq_true rfl⟩ ⟨Nat.le_refl _, Nat.le_refl _⟩ rfl (Nat.le_of_ble_eq_true rfl) (fun r11 σ10 _ => ?_)
            exact hj_iret dX12_book_116 rfl rfl (Nat.le_refl _)
          · refine hj_aload_n 0 dX12_book_94 rfl ?_
            refine hj_getR flX12_49 dX12_book_95 (fun t12 _ => ?_)
            refine hj_bipush (6 : Int32) dX12_book_98 (by decide) ?_
            refine hj_aload_n 0 dX12_book_100 rfl ?_
            refine hj_getI flX12_221 dX12_book_101 (fun t13 _ => ?_)
            refine hj_imul dX12_book_104 ?_
            refine hj_iload_n 1 dX12_book_105 rfl ?_
            refine hj_iadd dX12_book_106 ?_
            refine hj_iald dX12_book_107 (fun t14 _ => ?_)
            refine hj_goto 116 dX12_book_108 (by decide) ?_
            exact hj_iret dX12_book_116 rfl rfl (Nat.le_refl _)
        · refine hj_ite (fun n3 => ?_) (fun n3 => ?_)
          · refine hj_tin (3 : Int32) (94) 117 dX12_book_23 n3 (by decide) (by decide) (by decide) (by decide) ?_
            refine hj_iload_n 3 dX12_book_117 rfl ?_
            exact hj_iret dX12_book_118 rfl rfl (Nat.le_refl _)
          · refine hj_ite (fun n4 => ?_) (fun n4 => ?_)
            · refine hj_tin (4 : Int32) (96) 119 dX12_book_23 n4 (by decide) (by decide) (by decide) (by decide) ?_
              refine hj_iload_n 3 dX12_book_119 rfl ?_
              refine hj_if_ge 129 dX12_book_120 (by decide) (fun _ => ?_) (fun _ => ?_)
              · refine hj_aload_n 0 dX12_book_129 rfl ?_
                refine hj_getR flX12_110 dX12_book_130 (fun t8 _ => ?_)
                refine hj_bipush (6 : Int32) dX12_book_133 (by decide) ?_
                refine hj_iload_n 3 dX12_book_135 rfl ?_
                refine hj_iadd dX12_book_136 ?_
                refine hj_iald dX12_book_137 (fun t9 _ => ?_)
                exact hj_iret dX12_book_138 rfl rfl (Nat.le_refl _)
              · refine hj_sipush (-1000 : Int32) dX12_book_123 (by decide) ?_
                refine hj_goto 138 dX12_book_126 (by decide) ?_
                exact hj_iret dX12_book_138 rfl rfl (Nat.le_refl _)
            · refine hj_ite (fun n5 => ?_) (fun n5 => ?_)
              · refine hj_tin (5 : Int32) (116) 139 dX12_book_23 n5 (by decide) (by decide) (by decide) (by decide) ?_
                refine hj_iload_n 3 dX12_book_139 rfl ?_
                refine hj_if_ge 147 dX12_book_140 (by decide) (fun _ => ?_) (fun _ => ?_)
                · refine hj_aload_n 0 dX12_book_147 rfl ?_
                  refine hj_getR flX12_110 dX12_book_148 (fun t6 _ => ?_)
                  refine hj_bipush (12 : Int32) dX12_book_151 (by decide) ?_
                  refine hj_iload_n 3 dX12_book_153 rfl ?_
                  refine hj_iadd dX12_book_154 ?_
                  refine hj_iald dX12_book_155 (fun t7 _ => ?_)
                  exact hj_iret dX12_book_156 rfl rfl (Nat.le_refl _)
                · refine hj_iconst (0 : Int32) dX12_book_143 (by decide) ?_
                  refine hj_goto 156 dX12_book_144 (by decide) ?_
                  exact hj_iret dX12_book_156 rfl rfl (Nat.le_refl _)
              · refine hj_tout 157 dX12_book_23 (by have := lv_neT (a := 0) n0 (by decide); have := lv_neT (a := 1) n1 (by decide); have := lv_neT (a := 2) n2 (by decide); have := lv_neT (a := 3) n3 (by decide); have := lv_neT (a := 4) n4 (by decide); have := lv_neT (a := 5) n5 (by decide); omega) (by decide) ?_
                refine hj_sipush (-10000 : Int32) dX12_book_157 (by decide) ?_
                exact hj_iret dX12_book_160 rfl rfl (Nat.le_refl _)
  · refine hj_sipush (-10000 : Int32) dX12_book_8 (by decide) ?_
    exact hj_iret dX12_book_11 rfl rfl (Nat.le_refl _)
theorem cX12_bookk {a0 : Nat} {a1 : Int32} {a2 : Int32} {σ : Sto} {r : Int32 × Sto} (h : fX12_book a0 a1 a2 σ = some r) : ∃ fs, hs_o σ 12 a0 = some fs := (ck_of h).1
def fX12_level (a0 : Nat) (a1 : Int32) (σ : Sto) : Option (Int32 × Sto) := ck σ 12 a0 (cb (fX12_isLevel a0 a1 σ) fun r2 σ1 => (if r2 = 0 then (some ((-1 : Int32), σ1)) else ((gR σ1 12 a0 47).bind fun t3 => ((aI σ1 2 t3 a1).bind fun t4 => (some (t4, σ1))))))
set_option maxHeartbeats 2000000 in
theorem kX12_level (G : GP) (a0 : Nat) (a1 : Int32) (σ : Sto) : Me G mX12_level 3 0 0 jI [.ref a0, .int a1] σ (fX12_level a0 a1 σ) := by
  refine hs_me (lv := [(0, .ref a0), (1, .int a1)]) (plainFor_of_name (by decide +kernel)) (Nat.le_of_ble_eq_true rfl) rfl ?_
  unfold fX12_level
  refine hj_ck ?_
  refine hj_aload_n 0 dX12_level_0 rfl ?_
  refine hj_iload_n 1 dX12_level_1 rfl ?_
  refine hj_callV (ci := 12) (M' := mX12_isLevel) (h' := 2) (As := [.int a1]) mfX12_isLevel mvX12_isLevel ⟨_, _, rfl⟩ mlX12_352 dX12_level_2 (kX12_isLevel G _ _ _) (fun _ hr => cX12_isLevelk hr) ⟨Nat.le_of_ble_eq_true rfl, Nat.le_of_ble_eq_true rfl⟩ ⟨Nat.le_refl _, Nat.le_refl _⟩ rfl (Nat.le_of_ble_eq_true rfl) (fun r2 σ1 _ => ?_)
  refine hj_if_eq 17 dX12_level_5 (by decide) (fun _ => ?_) (fun _ => ?_)
  · refine hj_iconst (-1 : Int32) dX12_level_17 (by decide) ?_
    exact hj_iret dX12_level_18 rfl rfl (Nat.le_refl _)
  · refine hj_aload_n 0 dX12_level_8 rfl ?_
    refine hj_getR flX12_107 dX12_level_9 (fun t3 _ => ?_)
    refine hj_iload_n 1 dX12_level_12 rfl ?_
    refine hj_iald dX12_level_13 (fun t4 _ => ?_)
    refine hj_goto 18 dX12_level_14 (by decide) ?_
    exact hj_iret dX12_level_18 rfl rfl (Nat.le_refl _)
theorem cX12_levelk {a0 : Nat} {a1 : Int32} {σ : Sto} {r : Int32 × Sto} (h : fX12_level a0 a1 σ = some r) : ∃ fs, hs_o σ 12 a0 = some fs := (ck_of h).1
def fX12_load (a0 : Nat) (a1 : Int32) (σ : Sto) : Option (Int32 × Sto) := ck σ 12 a0 (cb (fX12_isLevel a0 a1 σ) fun r2 σ1 => (if r2 = 0 then (some ((-1 : Int32), σ1)) else (cb (fX12_copies a0 σ1) fun _ σ3 => (cb (fX12_fillsLoads a0 σ3) fun _ σ4 => ((gR σ4 12 a0 53).bind fun t5 => ((aL σ4 3 t5 a1).bind fun t6 => (some ((t6.toInt32), σ4))))))))
set_option maxHeartbeats 2000000 in
theorem kX12_load (G : GP) (a0 : Nat) (a1 : Int32) (σ : Sto) : Me G mX12_load 5 0 0 jI [.ref a0, .int a1] σ (fX12_load a0 a1 σ) := by
  refine hs_me (lv := [(0, .ref a0), (1, .int a1)]) (plainFor_of_name (by decide +kernel)) (Nat.le_of_ble_eq_true rfl) rfl ?_
  unfold fX12_load
  refine hj_ck ?_
  refine hj_aload_n 0 dX12_load_0 rfl ?_
  refine hj_iload_n 1 dX12_load_1 rfl ?_
  refine hj_callV (ci := 12) (M' := mX12_isLevel) (h' := 2) (As := [.int a1]) mfX12_isLevel mvX12_isLevel ⟨_, _, rfl⟩ mlX12_352 dX12_load_2 (kX12_isLevel G _ _ _) (fun _ hr => cX12_isLevelk hr) ⟨Nat.le_of_ble_eq_true rfl, Nat.le_of_ble_eq_true rfl⟩ ⟨Nat.le_refl _, Nat.le_refl _⟩ rfl (Nat.le_of_ble_eq_true rfl) (fun r2 σ1 _ => ?_)
  refine hj_if_ne 10 dX12_load_5 (by decide) (fun _ => ?_) (fun _ => ?_)
  · refine hj_aload_n 0 dX12_load_10 rfl ?_
    refine hj_callV (ci := 12) (M' := mX12_copies) (h' := 1) (As := []) mfX12_copies mvX12_copies ⟨_, _, rfl⟩ mlX12_346 dX12_load_11 (kX12_copies G _ _) (fun _ hr => cX12_copiesk hr) ⟨Nat.le_of_ble_eq_true rfl, Nat.le_of_ble_eq_true rfl⟩ ⟨Nat.le_refl _, Nat.le_refl _⟩ rfl (Nat.le_of_ble_eq_true rfl) (fun _ σ3 _ => ?_)
    refine hj_aload_n 0 dX12_load_14 rfl ?_
    refine hj_callV (ci := 12) (M' := mX12_fillsLoads) (h' := 4) (As := []) mfX12_fillsLoads mvX12_fillsLoads ⟨_, _, rfl⟩ mlX12_337 dX12_load_15 (kX12_fillsLoads G _ _) (fun _ hr => cX12_fillsLoadsk hr) ⟨Nat.le_of_ble_eq_true rfl, Nat.le_of_ble_eq_true rfl⟩ ⟨Nat.le_refl _, Nat.le_refl _⟩ rfl (Nat.le_of_ble_eq_true rfl) (fun _ σ4 _ => ?_)
    refine hj_aload_n 0 dX12_load_18 rfl ?_
    refine hj_getR flX12_116 dX12_load_19 (fun t5 _ => ?_)
    refine hj_iload_n 1 dX12_load_22 rfl ?_
    refine hj_lald dX12_load_23 (fun t6 _ => ?_)
    refine hj_l2i dX12_load_24 ?_
    exact hj_iret dX12_load_25 rfl rfl (Nat.le_refl _)
  · refine hj_iconst (-1 : Int32) dX12_load_8 (by decide) ?_
    exact hj_iret dX12_load_9 rfl rfl (Nat.le_refl _)
theorem cX12_loadk {a0 : Nat} {a1 : Int32} {σ : Sto} {r : Int32 × Sto} (h : fX12_load a0 a1 σ = some r) : ∃ fs, hs_o σ 12 a0 = some fs := (ck_of h).1
def fX12_common_b17 : Nat → Int64 → Int64 → Sto → Option (Int64 × Sto)
  | 0, _, _, _ => none
  | n + 1, x4, x6, σ => (if (lg_cmp x6 ((0 : Int64))) = 0 then (some (x4, σ)) else (if x6 = 0 then none else (lt ((hs_remL x4 x6)) fun v1 => (fX12_common_b17 n x6 v1 σ))))
set_option maxHeartbeats 2000000 in
theorem sX12_common_b17 {G : GP} {n0 : Nat} : ∀ (n : Nat) (x4 : Int64) (x6 : Int64) (σ : Sto), Sim G mX12_common 1 0 0 n0 jL 0 0 17 [(4, .long x4), (6, .long x6)] [] σ (fX12_common_b17 n x4 x6 σ) := by
  intro n
  induction n with
  | zero => intros; rw [fX12_common_b17]; exact hj_none
  | succ n ih =>
    intro x4 x6 σ
    rw [fX12_common_b17]
    refine hj_lload 1 dX12_common_17 rfl ?_
    refine hj_lconst (0 : Int64) dX12_common_19 (by decide) ?_
    refine hj_lcmp dX12_common_20 ?_
    refine hj_if_eq 42 dX12_common_21 (by decide) (fun _ => ?_) (fun _ => ?_)
    · refine hj_lload 0 dX12_common_42 rfl ?_
      exact hj_lret dX12_common_44 rfl rfl (Nat.le_refl _)
    · refine hj_lload 0 dX12_common_24 rfl ?_
      refine hj_lload 1 dX12_common_26 rfl ?_
      refine hj_lrem dX12_common_28 (fun _ => ?_)
      refine hj_ltJ (fun v1 _ => ?_)
      refine hj_lstore (lv' := [(4, .long x4), (6, .long x6), (8, .long v1)]) dX12_common_29 (by decide) [1, 2, 0] rfl ?_
      refine hj_lload 1 dX12_common_31 rfl ?_
      refine hj_lstore (lv' := [(4, .long x6), (6, .long x6), (8, .long v1)]) dX12_common_33 (by decide) [0, 1, 2] rfl ?_
      refine hj_lload 2 dX12_common_35 rfl ?_
      refine hj_lstore (lv' := [(4, .long x6), (6, .long v1), (8, .long v1)]) dX12_common_37 (by decide) [1, 0, 2] rfl ?_
      refine hj_goto 17 dX12_common_39 (by decide) ?_
      refine hj_loc (lv' := [(4, .long x6), (6, .long v1)]) [0, 1] rfl ?_
      exact ih _ _ _
def fX12_common_b12 (x2 : Int64) (y0 : Int64) (σ : Sto) : Option (Int64 × Sto) := (fX12_common_b17 FU y0 x2 σ)
set_option maxHeartbeats 2000000 in
theorem sX12_common_b12 {G : GP} {n0 : Nat} : ∀ (x2 : Int64) (y0 : Int64) (σ : Sto), Sim G mX12_common 1 0 0 n0 jL 0 0 12 [(2, .long x2)] [.long y0] σ (fX12_common_b12 x2 y0 σ) := by
  intro x2 y0 σ
  unfold fX12_common_b12
  refine hj_lstore (lv' := [(2, .long x2), (4, .long y0)]) dX12_common_12 (by decide) [1, 0] rfl ?_
  refine hj_lload_n 0 dX12_common_14 rfl ?_
  refine hj_lstore (lv' := [(2, .long x2), (4, .long y0), (6, .long x2)]) dX12_common_15 (by decide) [1, 2, 0] rfl ?_
  refine hj_loc (lv' := [(4, .long y0), (6, .long x2)]) [1, 2] rfl ?_
  exact sX12_common_b17 _ _ _ _
def fX12_common (a0 : Int64) (a1 : Int64) (σ : Sto) : Option (Int64 × Sto) := (if 0 ≤ (lg_cmp a0 ((0 : Int64))) then (fX12_common_b12 a1 a0 σ) else (fX12_common_b12 a1 ((-a0)) σ))
set_option maxHeartbeats 2000000 in
theorem kX12_common (G : GP) (a0 : Int64) (a1 : Int64) (σ : Sto) : Me G mX12_common 1 0 0 jL [.long a0, .long a1] σ (fX12_common a0 a1 σ) := by
  refine hs_me (lv := [(0, .long a0), (2, .long a1)]) (plainFor_of_name (by decide +kernel)) (Nat.le_of_ble_eq_true rfl) rfl ?_
  unfold fX12_common
  refine hj_lload_n 0 dX12_common_0 rfl ?_
  refine hj_lconst (0 : Int64) dX12_common_1 (by decide) ?_
  refine hj_lcmp dX12_common_2 ?_
  refine hj_if_ge 11 dX12_common_3 (by decide) (fun _ => ?_) (fun _ => ?_)
  · refine hj_lload_n 0 dX12_common_11 rfl ?_
    refine hj_loc (lv' := [(2, .long a1)]) [1] rfl ?_
    exact sX12_common_b12 _ _ _
  · refine hj_lload_n 0 dX12_common_6 rfl ?_
    refine hj_lneg dX12_common_7 ?_
    refine hj_goto 12 dX12_common_8 (by decide) ?_
    refine hj_loc (lv' := [(2, .long a1)]) [1] rfl ?_
    exact sX12_common_b12 _ _ _
def fX12_point (a0 : Nat) (a1 : Int32) (a2 : Int32) (σ : Sto) : Option (Int64 × Sto) := ck σ 12 a0 (cb (fX12_isLevel a0 a1 σ) fun r2 σ1 => (if r2 = 0 then (some ((-1000000 : Int64), σ1)) else (cb (fX12_copies a0 σ1) fun _ σ3 => (cb (fX12_fillsLoads a0 σ3) fun _ σ4 => ((gR σ4 12 a0 53).bind fun t5 => ((aL σ4 3 t5 a1).bind fun t6 => (lt ((((2 : Int64)) * t6)) fun v7 => ((gR σ4 12 a0 54).bind fun t8 => ((aL σ4 3 t8 a1).bind fun t9 => (cb (fX12_common t9 v7 σ4) fun r11 σ10 => (if a2 = 0 then ((gR σ10 12 a0 54).bind fun t12 => ((aL σ10 3 t12 a1).bind fun t13 => (if r11 = 0 then none else (some ((t13 / r11), σ10))))) else (if r11 = 0 then none else (some ((v7 / r11), σ10))))))))))))))
set_option maxHeartbeats 2000000 in
theorem kX12_point (G : GP) (a0 : Nat) (a1 : Int32) (a2 : Int32) (σ : Sto) : Me G mX12_point 5 0 0 jL [.ref a0, .int a1, .int a2] σ (fX12_point a0 a1 a2 σ) := by
  refine hs_me (lv := [(0, .ref a0), (1, .int a1), (2, .int a2)]) (plainFor_of_name (by decide +kernel)) (Nat.le_of_ble_eq_true rfl) rfl ?_
  unfold fX12_point
  refine hj_ck ?_
  refine hj_aload_n 0 dX12_point_0 rfl ?_
  refine hj_iload_n 1 dX12_point_1 rfl ?_
  refine hj_callV (ci := 12) (M' := mX12_isLevel) (h' := 2) (As := [.int a1]) mfX12_isLevel mvX12_isLevel ⟨_, _, rfl⟩ mlX12_352 dX12_point_2 (kX12_isLevel G _ _ _) (fun _ hr => cX12_isLevelk hr) ⟨Nat.le_of_ble_eq_true rfl, Nat.le_of_ble_eq_true rfl⟩ ⟨Nat.le_refl _, Nat.le_refl _⟩ rfl (Nat.le_of_ble_eq_true rfl) (fun r2 σ1 _ => ?_)
  refine hj_if_ne 12 dX12_point_5 (by decide) (fun _ => ?_) (fun _ => ?_)
  · refine hj_aload_n 0 dX12_point_12 rfl ?_
    refine hj_callV (ci := 12) (M' := mX12_copies) (h' := 1) (As := []) mfX12_copies mvX12_copies ⟨_, _, rfl⟩ mlX12_346 dX12_point_13 (kX12_copies G _ _) (fun _ hr => cX12_copiesk hr) ⟨Nat.le_of_ble_eq_true rfl, Nat.le_of_ble_eq_true rfl⟩ ⟨Nat.le_refl _, Nat.le_refl _⟩ rfl (Nat.le_of_ble_eq_true rfl) (fun _ σ3 _ => ?_)
    refine hj_aload_n 0 dX12_point_16 rfl ?_
    refine hj_callV (ci := 12) (M' := mX12_fillsLoads) (h' := 4) (As := []) mfX12_fillsLoads mvX12_fillsLoads ⟨_, _, rfl⟩ mlX12_337 dX12_point_17 (kX12_fillsLoads G _ _) (fun _ hr => cX12_fillsLoadsk hr) ⟨Nat.le_of_ble_eq_true rfl, Nat.le_of_ble_eq_true rfl⟩ ⟨Nat.le_refl _, Nat.le_refl _⟩ rfl (Nat.le_of_ble_eq_true rfl) (fun _ σ4 _ => ?_)
    refine hj_ldc2 (2 : Int64) kcX12_320 dX12_point_20 ?_
    refine hj_aload_n 0 dX12_point_23 rfl ?_
    refine hj_getR flX12_116 dX12_point_24 (fun t5 _ => ?_)
    refine hj_iload_n 1 dX12_point_27 rfl ?_
    refine hj_lald dX12_point_28 (fun t6 _ => ?_)
    refine hj_lmul dX12_point_29 ?_
    refine hj_ltJ (fun v7 _ => ?_)
    refine hj_lstore_n (lv' := [(0, .ref a0), (1, .int a1), (2, .int a2), (3, .long v7)]) dX12_point_30 (by decide) [1, 2, 3, 0] rfl ?_
    refine hj_aload_n 0 dX12_point_31 rfl ?_
    refine hj_getR flX12_119 dX12_point_32 (fun t8 _ => ?_)
    refine hj_iload_n 1 dX12_point_35 rfl ?_
    refine hj_lald dX12_point_36 (fun t9 _ => ?_)
    refine hj_lload_n 3 dX12_point_37 rfl ?_
    refine hj_callS (M' := mX12_common) (h' := 1) (As := [.long t9, .long v7]) mfX12_common msX12_common mlX12_357 dX12_point_38 (kX12_common G _ _ _) ⟨Nat.le_of_ble_eq_true rfl, Nat.le_of_ble_eq_true rfl⟩ ⟨Nat.le_refl _, Nat.le_refl _⟩ rfl (Nat.le_of_ble_eq_true rfl) (fun r11 σ10 _ => ?_)
    refine hj_lstore (lv' := [(0, .ref a0), (1, .int a1), (2, .int a2), (3, .long v7), (5, .long r11)]) dX12_point_41 (by decide) [1, 2, 3, 4, 0] rfl ?_
    refine hj_iload_n 2 dX12_point_43 rfl ?_
    refine hj_if_eq 54 dX12_point_44 (by decide) (fun _ => ?_) (fun _ => ?_)
    · refine hj_aload_n 0 dX12_point_54 rfl ?_
      refine hj_getR flX12_119 dX12_point_55 (fun t12 _ => ?_)
      refine hj_iload_n 1 dX12_point_58 rfl ?_
      refine hj_lald dX12_point_59 (fun t13 _ => ?_)
      refine hj_lload 4 dX12_point_60 rfl ?_
      refine hj_ldiv dX12_point_62 (fun _ => ?_)
      exact hj_lret dX12_point_63 rfl rfl (Nat.le_refl _)
    · refine hj_lload_n 3 dX12_point_47 rfl ?_
      refine hj_lload 4 dX12_point_48 rfl ?_
      refine hj_ldiv dX12_point_50 (fun _ => ?_)
      refine hj_goto 63 dX12_point_51 (by decide) ?_
      exact hj_lret dX12_point_63 rfl rfl (Nat.le_refl _)
  · refine hj_ldc2 (-1000000 : Int64) kcX12_355 dX12_point_8 ?_
    exact hj_lret dX12_point_11 rfl rfl (Nat.le_refl _)
theorem cX12_pointk {a0 : Nat} {a1 : Int32} {a2 : Int32} {σ : Sto} {r : Int64 × Sto} (h : fX12_point a0 a1 a2 σ = some r) : ∃ fs, hs_o σ 12 a0 = some fs := (ck_of h).1
def fX12_stands (a0 : Nat) (σ : Sto) : Option (Int32 × Sto) := ck σ 12 a0 (cb (fX12_copies a0 σ) fun _ σ1 => (cb (fX12_tipsAt a0 σ1) fun r3 σ2 => (if 0 ≤ r3 then (some ((0 : Int32), σ2)) else (some ((1 : Int32), σ2)))))
set_option maxHeartbeats 2000000 in
theorem kX12_stands (G : GP) (a0 : Nat) (σ : Sto) : Me G mX12_stands 6 0 0 jI [.ref a0] σ (fX12_stands a0 σ) := by
  refine hs_me (lv := [(0, .ref a0)]) (plainFor_of_name (by decide +kernel)) (Nat.le_of_ble_eq_true rfl) rfl ?_
  unfold fX12_stands
  refine hj_ck ?_
  refine hj_aload_n 0 dX12_stands_0 rfl ?_
  refine hj_callV (ci := 12) (M' := mX12_copies) (h' := 1) (As := []) mfX12_copies mvX12_copies ⟨_, _, rfl⟩ mlX12_346 dX12_stands_1 (kX12_copies G _ _) (fun _ hr => cX12_copiesk hr) ⟨Nat.le_of_ble_eq_true rfl, Nat.le_of_ble_eq_true rfl⟩ ⟨Nat.le_refl _, Nat.le_refl _⟩ rfl (Nat.le_of_ble_eq_true rfl) (fun _ σ1 _ => ?_)
  refine hj_aload_n 0 dX12_stands_4 rfl ?_
  refine hj_callV (ci := 12) (M' := mX12_tipsAt) (h' := 5) (As := []) mfX12_tipsAt mvX12_tipsAt ⟨_, _, rfl⟩ mlX12_361 dX12_stands_5 (kX12_tipsAt G _ _) (fun _ hr => cX12_tipsAtk hr) ⟨Nat.le_of_ble_eq_true rfl, Nat.le_of_ble_eq_true rfl⟩ ⟨Nat.le_refl _, Nat.le_refl _⟩ rfl (Nat.le_of_ble_eq_true rfl) (fun r3 σ2 _ => ?_)
  refine hj_if_ge 15 dX12_stands_8 (by decide) (fun _ => ?_) (fun _ => ?_)
  · refine hj_iconst (0 : Int32) dX12_stands_15 (by decide) ?_
    exact hj_zret dX12_stands_16 rfl (by decide) rfl (Nat.le_refl _)
  · refine hj_iconst (1 : Int32) dX12_stands_11 (by decide) ?_
    refine hj_goto 16 dX12_stands_12 (by decide) ?_
    exact hj_zret dX12_stands_16 rfl (by decide) rfl (Nat.le_refl _)
theorem cX12_standsk {a0 : Nat} {σ : Sto} {r : Int32 × Sto} (h : fX12_stands a0 σ = some r) : ∃ fs, hs_o σ 12 a0 = some fs := (ck_of h).1
def fX12_tips (a0 : Nat) (a1 : Int32) (σ : Sto) : Option (Int32 × Sto) := ck σ 12 a0 (cb (fX12_in a1 ((0 : Int32)) ((1 : Int32)) σ) fun r2 σ1 => (if r2 = 0 then (some ((-1 : Int32), σ1)) else (cb (fX12_copies a0 σ1) fun _ σ3 => (cb (fX12_tipsAt a0 σ3) fun r5 σ4 => (if r5 < 0 then (some (r5, σ4)) else (if a1 = 0 then (some (r5, σ4)) else (cb (fX12_leftOf a0 r5 σ4) fun r7 σ6 => (cb (fX12_rightOf a0 r5 σ6) fun r9 σ8 => (if r9 < r7 then ((gR σ8 12 a0 48).bind fun t10 => ((aI σ8 2 t10 ((((6 : Int32)) + r5))).bind fun t11 => (cb (fX12_rightBelow a0 r5 σ8) fun r13 σ12 => (if t11 ≤ r13 then (some ((0 : Int32), σ12)) else (some ((1 : Int32), σ12)))))) else ((gR σ8 12 a0 54).bind fun t14 => ((aL σ8 3 t14 r5).bind fun t15 => ((gR σ8 12 a0 53).bind fun t16 => ((aL σ8 3 t16 r5).bind fun t17 => (cb (fX12_rightOf a0 r5 σ8) fun r19 σ18 => (if (lg_cmp t15 ((((((2 : Int64)) * t17)) * ((r19.toInt64))))) ≤ 0 then (some ((0 : Int32), σ18)) else (some ((1 : Int32), σ18)))))))))))))))))
set_option maxHeartbeats 2000000 in
theorem kX12_tips (G : GP) (a0 : Nat) (a1 : Int32) (σ : Sto) : Me G mX12_tips 6 0 0 jI [.ref a0, .int a1] σ (fX12_tips a0 a1 σ) := by
  refine hs_me (lv := [(0, .ref a0), (1, .int a1)]) (plainFor_of_name (by decide +kernel)) (Nat.le_of_ble_eq_true rfl) rfl ?_
  unfold fX12_tips
  refine hj_ck ?_
  refine hj_iload_n 1 dX12_tips_0 rfl ?_
  refine hj_iconst (0 : Int32) dX12_tips_1 (by decide) ?_
  refine hj_iconst (1 : Int32) dX12_tips_2 (by decide) ?_
  refine hj_callS (M' := mX12_in) (h' := 1) (As := [.int a1, .int ((0 : Int32)), .int ((1 : Int32))]) mfX12_in msX12_in mlX12_298 dX12_tips_3 (kX12_in G _ _ _ _) ⟨Nat.le_of_ble_eq_true rfl, Nat.le_of_ble_eq_true rfl⟩ ⟨Nat.le_refl _, Nat.le_refl _⟩ rfl (Nat.le_of_ble_eq_true rfl) (fun r2 σ1 _ => ?_)
  refine hj_if_ne 11 dX12_tips_6 (by decide) (fun _ => ?_) (fun _ => ?_)
  · refine hj_aload_n 0 dX12_tips_11 rfl ?_
    refine hj_callV (ci := 12) (M' := mX12_copies) (h' := 1) (As := []) mfX12_copies mvX12_copies ⟨_, _, rfl⟩ mlX12_346 dX12_tips_12 (kX12_copies G _ _) (fun _ hr => cX12_copiesk hr) ⟨Nat.le_of_ble_eq_true rfl, Nat.le_of_ble_eq_true rfl⟩ ⟨Nat.le_refl _, Nat.le_refl _⟩ rfl (Nat.le_of_ble_eq_true rfl) (fun _ σ3 _ => ?_)
    refine hj_aload_n 0 dX12_tips_15 rfl ?_
    refine hj_callV (ci := 12) (M' := mX12_tipsAt) (h' := 5) (As := []) mfX12_tipsAt mvX12_tipsAt ⟨_, _, rfl⟩ mlX12_361 dX12_tips_16 (kX12_tipsAt G _ _) (fun _ hr => cX12_tipsAtk hr) ⟨Nat.le_of_ble_eq_true rfl, Nat.le_of_ble_eq_true rfl⟩ ⟨Nat.le_refl _, Nat.le_refl _⟩ rfl (Nat.le_of_ble_eq_true rfl) (fun r5 σ4 _ => ?_)
    refine hj_istore_n (lv' := [(0, .ref a0), (1, .int a1), (2, .int r5)]) dX12_tips_19 (by decide) [1, 2, 0] rfl ?_
    refine hj_iload_n 2 dX12_tips_20 rfl ?_
    refine hj_if_lt 28 dX12_tips_21 (by decide) (fun _ => ?_) (fun _ => ?_)
    · refine hj_iload_n 2 dX12_tips_28 rfl ?_
      exact hj_iret dX12_tips_29 rfl rfl (Nat.le_refl _)
    · refine hj_iload_n 1 dX12_tips_24 rfl ?_
      refine hj_if_ne 30 dX12_tips_25 (by decide) (fun _ => ?_) (fun _ => ?_)
      · refine hj_aload_n 0 dX12_tips_30 rfl ?_
        refine hj_iload_n 2 dX12_tips_31 rfl ?_
        refine hj_callV (ci := 12) (M' := mX12_leftOf) (h' := 2) (As := [.int r5]) mfX12_leftOf mvX12_leftOf ⟨_, _, rfl⟩ mlX12_331 dX12_tips_32 (kX12_leftOf G _ _ _) (fun _ hr => cX12_leftOfk hr) ⟨Nat.le_of_ble_eq_true rfl, Nat.le_of_ble_eq_true rfl⟩ ⟨Nat.le_refl _, Nat.le_refl _⟩ rfl (Nat.le_of_ble_eq_true rfl) (fun r7 σ6 _ => ?_)
        refine hj_aload_n 0 dX12_tips_35 rfl ?_
        refine hj_iload_n 2 dX12_tips_36 rfl ?_
        refine hj_callV (ci := 12) (M' := mX12_rightOf) (h' := 3) (As := [.int r5]) mfX12_rightOf mvX12_rightOf ⟨_, _, rfl⟩ mlX12_334 dX12_tips_37 (kX12_rightOf G _ _ _) (fun _ hr => cX12_rightOfk hr) ⟨Nat.le_of_ble_eq_true rfl, Nat.le_of_ble_eq_true rfl⟩ ⟨Nat.le_refl _, Nat.le_refl _⟩ rfl (Nat.le_of_ble_eq_true rfl) (fun r9 σ8 _ => ?_)
        refine hj_icmp_gt 76 dX12_tips_40 (by decide) (fun _ => ?_) (fun _ => ?_)
        · refine hj_aload_n 0 dX12_tips_76 rfl ?_
          refine hj_getR flX12_110 dX12_tips_77 (fun t10 _ => ?_)
          refine hj_bipush (6 : Int32) dX12_tips_80 (by decide) ?_
          refine hj_iload_n 2 dX12_tips_82 rfl ?_
          refine hj_iadd dX12_tips_83 ?_
          refine hj_iald dX12_tips_84 (fun t11 _ => ?_)
          refine hj_aload_n 0 dX12_tips_85 rfl ?_
          refine hj_iload_n 2 dX12_tips_86 rfl ?_
          refine hj_callV (ci := 12) (M' := mX12_rightBelow) (h' := 2) (As := [.int r5]) mfX12_rightBelow mvX12_rightBelow ⟨_, _, rfl⟩ mlX12_328 dX12_tips_87 (kX12_rightBelow G _ _ _) (fun _ hr => cX12_rightBelowk hr) ⟨Nat.le_of_ble_eq_true rfl, Nat.le_of_ble_eq_true rfl⟩ ⟨Nat.le_refl _, Nat.le_refl _⟩ rfl (Nat.le_of_ble_eq_true rfl) (fun r13 σ12 _ => ?_)
          refine hj_icmp_le 97 dX12_tips_90 (by decide) (fun _ => ?_) (fun _ => ?_)
          · refine hj_iconst (0 : Int32) dX12_tips_97 (by decide) ?_
            exact hj_iret dX12_tips_98 rfl rfl (Nat.le_refl _)
          · refine hj_iconst (1 : Int32) dX12_tips_93 (by decide) ?_
            refine hj_goto 98 dX12_tips_94 (by decide) ?_
            exact hj_iret dX12_tips_98 rfl rfl (Nat.le_refl _)
        · refine hj_aload_n 0 dX12_tips_43 rfl ?_
          refine hj_getR flX12_119 dX12_tips_44 (fun t14 _ => ?_)
          refine hj_iload_n 2 dX12_tips_47 rfl ?_
          refine hj_lald dX12_tips_48 (fun t15 _ => ?_)
          refine hj_ldc2 (2 : Int64) kcX12_320 dX12_tips_49 ?_
          refine hj_aload_n 0 dX12_tips_52 rfl ?_
          refine hj_getR flX12_116 dX12_tips_53 (fun t16 _ => ?_)
          refine hj_iload_n 2 dX12_tips_56 rfl ?_
          refine hj_lald dX12_tips_57 (fun t17 _ => ?_)
          refine hj_lmul dX12_tips_58 ?_
          refine hj_aload_n 0 dX12_tips_59 rfl ?_
          refine hj_iload_n 2 dX12_tips_60 rfl ?_
          refine hj_callV (ci := 12) (M' := mX12_rightOf) (h' := 3) (As := [.int r5]) mfX12_rightOf mvX12_rightOf ⟨_, _, rfl⟩ mlX12_334 dX12_tips_61 (kX12_rightOf G _ _ _) (fun _ hr => cX12_rightOfk hr) ⟨Nat.le_of_ble_eq_true rfl, Nat.le_of_ble_eq_true rfl⟩ ⟨Nat.le_refl _, Nat.le_refl _⟩ rfl (Nat.le_of_ble_eq_true rfl) (fun r19 σ18 _ => ?_)
          refine hj_i2l dX12_tips_64 ?_
          refine hj_lmul dX12_tips_65 ?_
          refine hj_lcmp dX12_tips_66 ?_
          refine hj_if_le 74 dX12_tips_67 (by decide) (fun _ => ?_) (fun _ => ?_)
          · refine hj_iconst (0 : Int32) dX12_tips_74 (by decide) ?_
            exact hj_iret dX12_tips_75 rfl rfl (Nat.le_refl _)
          · refine hj_iconst (1 : Int32) dX12_tips_70 (by decide) ?_
            refine hj_goto 75 dX12_tips_71 (by decide) ?_
            exact hj_iret dX12_tips_75 rfl rfl (Nat.le_refl _)
      · refine hj_iload_n 2 dX12_tips_28 rfl ?_
        exact hj_iret dX12_tips_29 rfl rfl (Nat.le_refl _)
  · refine hj_iconst (-1 : Int32) dX12_tips_9 (by decide) ?_
    exact hj_iret dX12_tips_10 rfl rfl (Nat.le_refl _)
theorem cX12_tipsk {a0 : Nat} {a1 : Int32} {σ : Sto} {r : Int32 × Sto} (h : fX12_tips a0 a1 σ = some r) : ∃ fs, hs_o σ 12 a0 = some fs := (ck_of h).1
def fX12_overNow_b50 (K4 : Nat → Int32 → Int32 → Sto → Option (Int32 × Sto)) (x0 : Nat) (x1 : Int32) (x2 : Int32) (σ : Sto) : Option (Int32 × Sto) := (K4 x0 x1 (x2 + (1 : Int32)) σ)
set_option maxHeartbeats 2000000 in
theorem sX12_overNow_b50 {G : GP} {n0 : Nat} {K4 : Nat → Int32 → Int32 → Sto → Option (Int32 × Sto)} (hK4 : ∀ (x0 : Nat) (x1 : Int32) (x2 : Int32) (σ : Sto), Sim G mX12_overNow 2 0 0 n0 jI 0 0 4 [(0, .ref x0), (1, .int x1), (2, .int x2)] [] σ (K4 x0 x1 x2 σ)) : ∀ (x0 : Nat) (x1 : Int32) (x2 : Int32) (σ : Sto), Sim G mX12_overNow 2 0 0 n0 jI 0 0 50 [(0, .ref x0), (1, .int x1), (2, .int x2)] [] σ (fX12_overNow_b50 K4 x0 x1 x2 σ) := by
  intro x0 x1 x2 σ
  unfold fX12_overNow_b50
  refine hj_iinc (lv' := [(0, .ref x0), (1, .int x1), (2, .int (x2 + (1 : Int32)))]) 2 (1 : Int32) dX12_overNow_50 rfl (by decide) (by decide) [1, 2, 0] rfl ?_
  refine hj_goto 4 dX12_overNow_53 (by decide) ?_
  refine hj_loc (lv' := [(0, .ref x0), (1, .int x1), (2, .int (x2 + (1 : Int32)))]) [0, 1, 2] rfl ?_
  exact hK4 _ _ _ _
def fX12_overNow_b4 : Nat → Nat → Int32 → Int32 → Sto → Option (Int32 × Sto)
  | 0, _, _, _, _ => none
  | n + 1, x0, x1, x2, σ => ((gR σ 12 x0 48).bind fun t1 => ((aI σ 2 t1 ((18 : Int32))).bind fun t2 => (if t2 ≤ x2 then (some (x1, σ)) else ((gR σ 12 x0 48).bind fun t3 => ((aI σ 2 t3 ((((6 : Int32)) + x2))).bind fun t4 => (cb (fX12_longAt x0 x2 σ) fun r6 σ5 => (if (t4 + r6) ≤ x1 then (fX12_overNow_b50 (fX12_overNow_b4 n) x0 x1 x2 σ5) else ((gR σ5 12 x0 48).bind fun t7 => ((aI σ5 2 t7 ((((6 : Int32)) + x2))).bind fun t8 => (cb (fX12_longAt x0 x2 σ5) fun r10 σ9 => (lt ((t8 + r10)) fun v11 => (fX12_overNow_b50 (fX12_overNow_b4 n) x0 v11 x2 σ9))))))))))))
set_option maxHeartbeats 2000000 in
theorem sX12_overNow_b4 {G : GP} {n0 : Nat} : ∀ (n : Nat) (x0 : Nat) (x1 : Int32) (x2 : Int32) (σ : Sto), Sim G mX12_overNow 2 0 0 n0 jI 0 0 4 [(0, .ref x0), (1, .int x1), (2, .int x2)] [] σ (fX12_overNow_b4 n x0 x1 x2 σ) := by
  intro n
  induction n with
  | zero => intros; rw [fX12_overNow_b4]; exact hj_none
  | succ n ih =>
    intro x0 x1 x2 σ
    rw [fX12_overNow_b4]
    refine hj_iload_n 2 dX12_overNow_4 rfl ?_
    refine hj_aload_n 0 dX12_overNow_5 rfl ?_
    refine hj_getR flX12_110 dX12_overNow_6 (fun t1 _ => ?_)
    refine hj_bipush (18 : Int32) dX12_overNow_9 (by decide) ?_
    refine hj_iald dX12_overNow_11 (fun t2 _ => ?_)
    refine hj_icmp_ge 56 dX12_overNow_12 (by decide) (fun _ => ?_) (fun _ => ?_)
    · refine hj_iload_n 1 dX12_overNow_56 rfl ?_
      exact hj_iret dX12_overNow_57 rfl rfl (Nat.le_refl _)
    · refine hj_aload_n 0 dX12_overNow_15 rfl ?_
      refine hj_getR flX12_110 dX12_overNow_16 (fun t3 _ => ?_)
      refine hj_bipush (6 : Int32) dX12_overNow_19 (by decide) ?_
      refine hj_iload_n 2 dX12_overNow_21 rfl ?_
      refine hj_iadd dX12_overNow_22 ?_
      refine hj_iald dX12_overNow_23 (fun t4 _ => ?_)
      refine hj_aload_n 0 dX12_overNow_24 rfl ?_
      refine hj_iload_n 2 dX12_overNow_25 rfl ?_
      refine hj_callV (ci := 12) (M' := mX12_longAt) (h' := 1) (As := [.int x2]) mfX12_longAt mvX12_longAt ⟨_, _, rfl⟩ mlX12_317 dX12_overNow_26 (kX12_longAt G _ _ _) (fun _ hr => cX12_longAtk hr) ⟨Nat.le_of_ble_eq_true rfl, Nat.le_of_ble_eq_true rfl⟩ ⟨Nat.le_refl _, Nat.le_refl _⟩ rfl (Nat.le_of_ble_eq_true rfl) (fun r6 σ5 _ => ?_)
      refine hj_iadd dX12_overNow_29 ?_
      refine hj_iload_n 1 dX12_overNow_30 rfl ?_
      refine hj_icmp_le 50 dX12_overNow_31 (by decide) (fun _ => ?_) (fun _ => ?_)
      · refine hj_loc (lv' := [(0, .ref x0), (1, .int x1), (2, .int x2)]) [0, 1, 2] rfl ?_
        exact sX12_overNow_b50 ih _ _ _ _
      · refine hj_aload_n 0 dX12_overNow_34 rfl ?_
        refine hj_getR flX12_110 dX12_overNow_35 (fun t7 _ => ?_)
        refine hj_bipush (6 : Int32) dX12_overNow_38 (by decide) ?_
        refine hj_iload_n 2 dX12_overNow_40 rfl ?_
        refine hj_iadd dX12_overNow_41 ?_
        refine hj_iald dX12_overNow_42 (fun t8 _ => ?_)
        refine hj_aload_n 0 dX12_overNow_43 rfl ?_
        refine hj_iload_n 2 dX12_overNow_44 rfl ?_
        refine hj_callV (ci := 12) (M' := mX12_longAt) (h' := 1) (As := [.int x2]) mfX12_longAt mvX12_longAt ⟨_, _, rfl⟩ mlX12_317 dX12_overNow_45 (kX12_longAt G _ _ _) (fun _ hr => cX12_longAtk hr) ⟨Nat.le_of_ble_eq_true rfl, Nat.le_of_ble_eq_true rfl⟩ ⟨Nat.le_refl _, Nat.le_refl _⟩ rfl (Nat.le_of_ble_eq_true rfl) (fun r10 σ9 _ => ?_)
        refine hj_iadd dX12_overNow_48 ?_
        refine hj_ltI (fun v11 _ => ?_)
        refine hj_istore_n (lv' := [(0, .ref x0), (1, .int v11), (2, .int x2)]) dX12_overNow_49 (by decide) [1, 0, 2] rfl ?_
        refine hj_loc (lv' := [(0, .ref x0), (1, .int v11), (2, .int x2)]) [0, 1, 2] rfl ?_
        exact sX12_overNow_b50 ih _ _ _ _
def fX12_overNow (a0 : Nat) (σ : Sto) : Option (Int32 × Sto) := ck σ 12 a0 (fX12_overNow_b4 FU a0 ((0 : Int32)) ((0 : Int32)) σ)
set_option maxHeartbeats 2000000 in
theorem kX12_overNow (G : GP) (a0 : Nat) (σ : Sto) : Me G mX12_overNow 2 0 0 jI [.ref a0] σ (fX12_overNow a0 σ) := by
  refine hs_me (lv := [(0, .ref a0)]) (plainFor_of_name (by decide +kernel)) (Nat.le_of_ble_eq_true rfl) rfl ?_
  unfold fX12_overNow
  refine hj_ck ?_
  refine hj_iconst (0 : Int32) dX12_overNow_0 (by decide) ?_
  refine hj_istore_n (lv' := [(0, .ref a0), (1, .int (0 : Int32))]) dX12_overNow_1 (by decide) [1, 0] rfl ?_
  refine hj_iconst (0 : Int32) dX12_overNow_2 (by decide) ?_
  refine hj_istore_n (lv' := [(0, .ref a0), (1, .int (0 : Int32)), (2, .int (0 : Int32))]) dX12_overNow_3 (by decide) [1, 2, 0] rfl ?_
  refine hj_loc (lv' := [(0, .ref a0), (1, .int (0 : Int32)), (2, .int (0 : Int32))]) [0, 1, 2] rfl ?_
  exact sX12_overNow_b4 _ _ _ _ _
theorem cX12_overNowk {a0 : Nat} {σ : Sto} {r : Int32 × Sto} (h : fX12_overNow a0 σ = some r) : ∃ fs, hs_o σ 12 a0 = some fs := (ck_of h).1
def fX12_over (a0 : Nat) (σ : Sto) : Option (Int32 × Sto) := ck σ 12 a0 (cb (fX12_copies a0 σ) fun _ σ1 => (cb (fX12_overNow a0 σ1) fun r3 σ2 => (some (r3, σ2))))
set_option maxHeartbeats 2000000 in
theorem kX12_over (G : GP) (a0 : Nat) (σ : Sto) : Me G mX12_over 3 0 0 jI [.ref a0] σ (fX12_over a0 σ) := by
  refine hs_me (lv := [(0, .ref a0)]) (plainFor_of_name (by decide +kernel)) (Nat.le_of_ble_eq_true rfl) rfl ?_
  unfold fX12_over
  refine hj_ck ?_
  refine hj_aload_n 0 dX12_over_0 rfl ?_
  refine hj_callV (ci := 12) (M' := mX12_copies) (h' := 1) (As := []) mfX12_copies mvX12_copies ⟨_, _, rfl⟩ mlX12_346 dX12_over_1 (kX12_copies G _ _) (fun _ hr => cX12_copiesk hr) ⟨Nat.le_of_ble_eq_true rfl, Nat.le_of_ble_eq_true rfl⟩ ⟨Nat.le_refl _, Nat.le_refl _⟩ rfl (Nat.le_of_ble_eq_true rfl) (fun _ σ1 _ => ?_)
  refine hj_aload_n 0 dX12_over_4 rfl ?_
  refine hj_callV (ci := 12) (M' := mX12_overNow) (h' := 2) (As := []) mfX12_overNow mvX12_overNow ⟨_, _, rfl⟩ mlX12_364 dX12_over_5 (kX12_overNow G _ _) (fun _ hr => cX12_overNowk hr) ⟨Nat.le_of_ble_eq_true rfl, Nat.le_of_ble_eq_true rfl⟩ ⟨Nat.le_refl _, Nat.le_refl _⟩ rfl (Nat.le_of_ble_eq_true rfl) (fun r3 σ2 _ => ?_)
  exact hj_iret dX12_over_8 rfl rfl (Nat.le_refl _)
theorem cX12_overk {a0 : Nat} {σ : Sto} {r : Int32 × Sto} (h : fX12_over a0 σ = some r) : ∃ fs, hs_o σ 12 a0 = some fs := (ck_of h).1
def fX12_keeps_b95 : Nat → Nat → Int32 → Sto → Option (Unit × Sto)
  | 0, _, _, _ => none
  | n + 1, x0, x1, σ => (if (20 : Int32) ≤ x1 then (some ((), σ)) else ((gR σ 12 x0 47).bind fun t14 => ((gR σ 12 x0 48).bind fun t15 => ((aI σ 2 t15 x1).bind fun t16 => ((sI σ 2 t14 x1 t16).bind fun σ17 => (fX12_keeps_b95 n x0 (x1 + (1 : Int32)) σ17))))))
set_option maxHeartbeats 2000000 in
theorem sX12_keeps_b95 {G : GP} {n0 : Nat} : ∀ (n : Nat) (x0 : Nat) (x1 : Int32) (σ : Sto), Sim G mX12_keeps 1 0 0 n0 jV 0 0 95 [(0, .ref x0), (1, .int x1)] [] σ (fX12_keeps_b95 n x0 x1 σ) := by
  intro n
  induction n with
  | zero => intros; rw [fX12_keeps_b95]; exact hj_none
  | succ n ih =>
    intro x0 x1 σ
    rw [fX12_keeps_b95]
    refine hj_iload_n 1 dX12_keeps_95 rfl ?_
    refine hj_bipush (20 : Int32) dX12_keeps_96 (by decide) ?_
    refine hj_icmp_ge 119 dX12_keeps_98 (by decide) (fun _ => ?_) (fun _ => ?_)
    · exact hj_vret dX12_keeps_119 rfl rfl (Nat.le_refl _)
    · refine hj_aload_n 0 dX12_keeps_101 rfl ?_
      refine hj_getR flX12_107 dX12_keeps_102 (fun t14 _ => ?_)
      refine hj_iload_n 1 dX12_keeps_105 rfl ?_
      refine hj_aload_n 0 dX12_keeps_106 rfl ?_
      refine hj_getR flX12_110 dX12_keeps_107 (fun t15 _ => ?_)
      refine hj_iload_n 1 dX12_keeps_110 rfl ?_
      refine hj_iald dX12_keeps_111 (fun t16 _ => ?_)
      refine hj_iast dX12_keeps_112 (fun σ17 _ => ?_)
      refine hj_iinc (lv' := [(0, .ref x0), (1, .int (x1 + (1 : Int32)))]) 1 (1 : Int32) dX12_keeps_113 rfl (by decide) (by decide) [1, 0] rfl ?_
      refine hj_goto 95 dX12_keeps_116 (by decide) ?_
      refine hj_loc (lv' := [(0, .ref x0), (1, .int (x1 + (1 : Int32)))]) [0, 1] rfl ?_
      exact ih _ _ _
def fX12_keeps_b83 (x0 : Nat) (σ : Sto) : Option (Unit × Sto) := ((gI σ 12 x0 55).bind fun t12 => ((pV σ 12 x0 55 (.int ((t12 + ((1 : Int32)))))).bind fun σ13 => (fX12_keeps_b95 FU x0 ((0 : Int32)) σ13)))
set_option maxHeartbeats 2000000 in
theorem sX12_keeps_b83 {G : GP} {n0 : Nat} : ∀ (x0 : Nat) (σ : Sto), Sim G mX12_keeps 1 0 0 n0 jV 0 0 83 [(0, .ref x0)] [] σ (fX12_keeps_b83 x0 σ) := by
  intro x0 σ
  unfold fX12_keeps_b83
  refine hj_aload_n 0 dX12_keeps_83 rfl ?_
  refine hj_dup dX12_keeps_84 rfl ?_
  refine hj_getI flX12_239 dX12_keeps_85 (fun t12 _ => ?_)
  refine hj_iconst (1 : Int32) dX12_keeps_88 (by decide) ?_
  refine hj_iadd dX12_keeps_89 ?_
  refine hj_put (fpX12_239 _) (fun _ => rfl) (fun _ => rfl) dX12_keeps_90 (fun σ13 _ => ?_)
  refine hj_iconst (0 : Int32) dX12_keeps_93 (by decide) ?_
  refine hj_istore_n (lv' := [(0, .ref x0), (1, .int (0 : Int32))]) dX12_keeps_94 (by decide) [1, 0] rfl ?_
  refine hj_loc (lv' := [(0, .ref x0), (1, .int (0 : Int32))]) [0, 1] rfl ?_
  exact sX12_keeps_b95 _ _ _ _
def fX12_keeps_b51 : Nat → Nat → Int32 → Sto → Option (Unit × Sto)
  | 0, _, _, _ => none
  | n + 1, x0, x1, σ => (if (20 : Int32) ≤ x1 then (fX12_keeps_b83 x0 σ) else ((gR σ 12 x0 56).bind fun t7 => ((gI σ 12 x0 55).bind fun t8 => ((gR σ 12 x0 47).bind fun t9 => ((aI σ 2 t9 x1).bind fun t10 => ((sI σ 2 t7 ((((((20 : Int32)) * t8)) + x1)) t10).bind fun σ11 => (fX12_keeps_b51 n x0 (x1 + (1 : Int32)) σ11)))))))
set_option maxHeartbeats 2000000 in
theorem sX12_keeps_b51 {G : GP} {n0 : Nat} : ∀ (n : Nat) (x0 : Nat) (x1 : Int32) (σ : Sto), Sim G mX12_keeps 1 0 0 n0 jV 0 0 51 [(0, .ref x0), (1, .int x1)] [] σ (fX12_keeps_b51 n x0 x1 σ) := by
  intro n
  induction n with
  | zero => intros; rw [fX12_keeps_b51]; exact hj_none
  | succ n ih =>
    intro x0 x1 σ
    rw [fX12_keeps_b51]
    refine hj_iload_n 1 dX12_keeps_51 rfl ?_
    refine hj_bipush (20 : Int32) dX12_keeps_52 (by decide) ?_
    refine hj_icmp_ge 83 dX12_keeps_54 (by decide) (fun _ => ?_) (fun _ => ?_)
    · refine hj_loc (lv' := [(0, .ref x0)]) [0] rfl ?_
      exact sX12_keeps_b83 _ _
    · refine hj_aload_n 0 dX12_keeps_57 rfl ?_
      refine hj_getR flX12_122 dX12_keeps_58 (fun t7 _ => ?_)
      refine hj_bipush (20 : Int32) dX12_keeps_61 (by decide) ?_
      refine hj_aload_n 0 dX12_keeps_63 rfl ?_
      refine hj_getI flX12_239 dX12_keeps_64 (fun t8 _ => ?_)
      refine hj_imul dX12_keeps_67 ?_
      refine hj_iload_n 1 dX12_keeps_68 rfl ?_
      refine hj_iadd dX12_keeps_69 ?_
      refine hj_aload_n 0 dX12_keeps_70 rfl ?_
      refine hj_getR flX12_107 dX12_keeps_71 (fun t9 _ => ?_)
      refine hj_iload_n 1 dX12_keeps_74 rfl ?_
      refine hj_iald dX12_keeps_75 (fun t10 _ => ?_)
      refine hj_iast dX12_keeps_76 (fun σ11 _ => ?_)
      refine hj_iinc (lv' := [(0, .ref x0), (1, .int (x1 + (1 : Int32)))]) 1 (1 : Int32) dX12_keeps_77 rfl (by decide) (by decide) [1, 0] rfl ?_
      refine hj_goto 51 dX12_keeps_80 (by decide) ?_
      refine hj_loc (lv' := [(0, .ref x0), (1, .int (x1 + (1 : Int32)))]) [0, 1] rfl ?_
      exact ih _ _ _
def fX12_keeps_b49 (x0 : Nat) (σ : Sto) : Option (Unit × Sto) := (fX12_keeps_b51 FU x0 ((0 : Int32)) σ)
set_option maxHeartbeats 2000000 in
theorem sX12_keeps_b49 {G : GP} {n0 : Nat} : ∀ (x0 : Nat) (σ : Sto), Sim G mX12_keeps 1 0 0 n0 jV 0 0 49 [(0, .ref x0)] [] σ (fX12_keeps_b49 x0 σ) := by
  intro x0 σ
  unfold fX12_keeps_b49
  refine hj_iconst (0 : Int32) dX12_keeps_49 (by decide) ?_
  refine hj_istore_n (lv' := [(0, .ref x0), (1, .int (0 : Int32))]) dX12_keeps_50 (by decide) [1, 0] rfl ?_
  refine hj_loc (lv' := [(0, .ref x0), (1, .int (0 : Int32))]) [0, 1] rfl ?_
  exact sX12_keeps_b51 _ _ _ _
def fX12_keeps_b39 (x0 : Nat) (σ : Sto) : Option (Unit × Sto) := ((gI σ 12 x0 55).bind fun t1 => ((pV σ 12 x0 55 (.int ((t1 - ((1 : Int32)))))).bind fun σ2 => (fX12_keeps_b49 x0 σ2)))
set_option maxHeartbeats 2000000 in
theorem sX12_keeps_b39 {G : GP} {n0 : Nat} : ∀ (x0 : Nat) (σ : Sto), Sim G mX12_keeps 1 0 0 n0 jV 0 0 39 [(0, .ref x0)] [] σ (fX12_keeps_b39 x0 σ) := by
  intro x0 σ
  unfold fX12_keeps_b39
  refine hj_aload_n 0 dX12_keeps_39 rfl ?_
  refine hj_dup dX12_keeps_40 rfl ?_
  refine hj_getI flX12_239 dX12_keeps_41 (fun t1 _ => ?_)
  refine hj_iconst (1 : Int32) dX12_keeps_44 (by decide) ?_
  refine hj_isub dX12_keeps_45 ?_
  refine hj_put (fpX12_239 _) (fun _ => rfl) (fun _ => rfl) dX12_keeps_46 (fun σ2 _ => ?_)
  refine hj_loc (lv' := [(0, .ref x0)]) [0] rfl ?_
  exact sX12_keeps_b49 _ _
def fX12_keeps_b11 : Nat → Nat → Int32 → Sto → Option (Unit × Sto)
  | 0, _, _, _ => none
  | n + 1, x0, x1, σ => (if (980 : Int32) ≤ x1 then (fX12_keeps_b39 x0 σ) else ((gR σ 12 x0 56).bind fun t3 => ((gR σ 12 x0 56).bind fun t4 => ((aI σ 2 t4 ((x1 + ((20 : Int32))))).bind fun t5 => ((sI σ 2 t3 x1 t5).bind fun σ6 => (fX12_keeps_b11 n x0 (x1 + (1 : Int32)) σ6))))))
set_option maxHeartbeats 2000000 in
theorem sX12_keeps_b11 {G : GP} {n0 : Nat} : ∀ (n : Nat) (x0 : Nat) (x1 : Int32) (σ : Sto), Sim G mX12_keeps 1 0 0 n0 jV 0 0 11 [(0, .ref x0), (1, .int x1)] [] σ (fX12_keeps_b11 n x0 x1 σ) := by
  intro n
  induction n with
  | zero => intros; rw [fX12_keeps_b11]; exact hj_none
  | succ n ih =>
    intro x0 x1 σ
    rw [fX12_keeps_b11]
    refine hj_iload_n 1 dX12_keeps_11 rfl ?_
    refine hj_sipush (980 : Int32) dX12_keeps_12 (by decide) ?_
    refine hj_icmp_ge 39 dX12_keeps_15 (by decide) (fun _ => ?_) (fun _ => ?_)
    · refine hj_loc (lv' := [(0, .ref x0)]) [0] rfl ?_
      exact sX12_keeps_b39 _ _
    · refine hj_aload_n 0 dX12_keeps_18 rfl ?_
      refine hj_getR flX12_122 dX12_keeps_19 (fun t3 _ => ?_)
      refine hj_iload_n 1 dX12_keeps_22 rfl ?_
      refine hj_aload_n 0 dX12_keeps_23 rfl ?_
      refine hj_getR flX12_122 dX12_keeps_24 (fun t4 _ => ?_)
      refine hj_iload_n 1 dX12_keeps_27 rfl ?_
      refine hj_bipush (20 : Int32) dX12_keeps_28 (by decide) ?_
      refine hj_iadd dX12_keeps_30 ?_
      refine hj_iald dX12_keeps_31 (fun t5 _ => ?_)
      refine hj_iast dX12_keeps_32 (fun σ6 _ => ?_)
      refine hj_iinc (lv' := [(0, .ref x0), (1, .int (x1 + (1 : Int32)))]) 1 (1 : Int32) dX12_keeps_33 rfl (by decide) (by decide) [1, 0] rfl ?_
      refine hj_goto 11 dX12_keeps_36 (by decide) ?_
      refine hj_loc (lv' := [(0, .ref x0), (1, .int (x1 + (1 : Int32)))]) [0, 1] rfl ?_
      exact ih _ _ _
def fX12_keeps (a0 : Nat) (σ : Sto) : Option (Unit × Sto) := ck σ 12 a0 ((gI σ 12 a0 55).bind fun t18 => (if t18 = (50 : Int32) then (fX12_keeps_b11 FU a0 ((0 : Int32)) σ) else (fX12_keeps_b49 a0 σ)))
set_option maxHeartbeats 2000000 in
theorem kX12_keeps (G : GP) (a0 : Nat) (σ : Sto) : Me G mX12_keeps 1 0 0 jV [.ref a0] σ (fX12_keeps a0 σ) := by
  refine hs_me (lv := [(0, .ref a0)]) (plainFor_of_name (by decide +kernel)) (Nat.le_of_ble_eq_true rfl) rfl ?_
  unfold fX12_keeps
  refine hj_ck ?_
  refine hj_aload_n 0 dX12_keeps_0 rfl ?_
  refine hj_getI flX12_239 dX12_keeps_1 (fun t18 _ => ?_)
  refine hj_bipush (50 : Int32) dX12_keeps_4 (by decide) ?_
  refine hj_icmp_ne 49 dX12_keeps_6 (by decide) (fun _ => ?_) (fun _ => ?_)
  · refine hj_loc (lv' := [(0, .ref a0)]) [0] rfl ?_
    exact sX12_keeps_b49 _ _
  · refine hj_iconst (0 : Int32) dX12_keeps_9 (by decide) ?_
    refine hj_istore_n (lv' := [(0, .ref a0), (1, .int (0 : Int32))]) dX12_keeps_10 (by decide) [1, 0] rfl ?_
    refine hj_loc (lv' := [(0, .ref a0), (1, .int (0 : Int32))]) [0, 1] rfl ?_
    exact sX12_keeps_b11 _ _ _ _
theorem cX12_keepsk {a0 : Nat} {σ : Sto} {r : Unit × Sto} (h : fX12_keeps a0 σ = some r) : ∃ fs, hs_o σ 12 a0 = some fs := (ck_of h).1
def fX12_lay_b83 (x0 : Nat) (x4 : Int32) (y0 : Nat) (y1 : Int32) (y2 : Int32) (σ : Sto) : Option (Int32 × Sto) := ((sI σ 2 y0 y1 y2).bind fun σ1 => ((gR σ1 12 x0 48).bind fun t2 => ((aI σ1 2 t2 ((18 : Int32))).bind fun t3 => ((sI σ1 2 t2 ((18 : Int32)) ((t3 + ((1 : Int32))))).bind fun σ4 => (cb (fX12_keeps x0 σ4) fun _ σ5 => (some (x4, σ5)))))))
set_option maxHeartbeats 2000000 in
theorem sX12_lay_b83 {G : GP} {n0 : Nat} : ∀ (x0 : Nat) (x4 : Int32) (y0 : Nat) (y1 : Int32) (y2 : Int32) (σ : Sto), Sim G mX12_lay 3 0 0 n0 jI 0 0 83 [(0, .ref x0), (4, .int x4)] [.int y2, .int y1, .ref y0] σ (fX12_lay_b83 x0 x4 y0 y1 y2 σ) := by
  intro x0 x4 y0 y1 y2 σ
  unfold fX12_lay_b83
  refine hj_iast dX12_lay_83 (fun σ1 _ => ?_)
  refine hj_aload_n 0 dX12_lay_84 rfl ?_
  refine hj_getR flX12_110 dX12_lay_85 (fun t2 _ => ?_)
  refine hj_bipush (18 : Int32) dX12_lay_88 (by decide) ?_
  refine hj_dup2 dX12_lay_90 rfl rfl ?_
  refine hj_iald dX12_lay_91 (fun t3 _ => ?_)
  refine hj_iconst (1 : Int32) dX12_lay_92 (by decide) ?_
  refine hj_iadd dX12_lay_93 ?_
  refine hj_iast dX12_lay_94 (fun σ4 _ => ?_)
  refine hj_aload_n 0 dX12_lay_95 rfl ?_
  refine hj_callV (ci := 12) (M' := mX12_keeps) (h' := 1) (As := []) mfX12_keeps mvX12_keeps ⟨_, _, rfl⟩ mlX12_367 dX12_lay_96 (kX12_keeps G _ _) (fun _ hr => cX12_keepsk hr) ⟨Nat.le_of_ble_eq_true rfl, Nat.le_of_ble_eq_true rfl⟩ ⟨Nat.le_refl _, Nat.le_refl _⟩ rfl (Nat.le_of_ble_eq_true rfl) (fun _ σ5 _ => ?_)
  refine hj_iload 1 dX12_lay_99 rfl ?_
  exact hj_iret dX12_lay_101 rfl rfl (Nat.le_refl _)
def fX12_lay (a0 : Nat) (a1 : Int32) (a2 : Int32) (a3 : Int32) (σ : Sto) : Option (Int32 × Sto) := ck σ 12 a0 (cb (fX12_isBook a0 a1 σ) fun r7 σ6 => (if r7 = 0 then (some ((-1 : Int32), σ6)) else (cb (fX12_in a2 ((-999 : Int32)) ((999 : Int32)) σ6) fun r9 σ8 => (if r9 = 0 then (some ((-1 : Int32), σ8)) else (cb (fX12_copies a0 σ8) fun _ σ10 => (cb (fX12_levelOf a0 a1 σ10) fun r12 σ11 => (if r12 < 0 then ((gR σ11 12 a0 48).bind fun t13 => ((aI σ11 2 t13 ((18 : Int32))).bind fun t14 => ((gR σ11 12 a0 48).bind fun t15 => ((sI σ11 2 t15 t14 a1).bind fun σ16 => ((gR σ16 12 a0 48).bind fun t17 => ((sI σ16 2 t17 ((((6 : Int32)) + t14)) a2).bind fun σ18 => ((gR σ18 12 a0 48).bind fun t19 => (if a3 = 0 then (fX12_lay_b83 a0 t14 t19 ((((12 : Int32)) + t14)) ((0 : Int32)) σ18) else (fX12_lay_b83 a0 t14 t19 ((((12 : Int32)) + t14)) ((1 : Int32)) σ18))))))))) else (some ((-1 : Int32), σ11)))))))))
set_option maxHeartbeats 2000000 in
theorem kX12_lay (G : GP) (a0 : Nat) (a1 : Int32) (a2 : Int32) (a3 : Int32) (σ : Sto) : Me G mX12_lay 3 0 0 jI [.ref a0, .int a1, .int a2, .int a3] σ (fX12_lay a0 a1 a2 a3 σ) := by
  refine hs_me (lv := [(0, .ref a0), (1, .int a1), (2, .int a2), (3, .int a3)]) (plainFor_of_name (by decide +kernel)) (Nat.le_of_ble_eq_true rfl) rfl ?_
  unfold fX12_lay
  refine hj_ck ?_
  refine hj_aload_n 0 dX12_lay_0 rfl ?_
  refine hj_iload_n 1 dX12_lay_1 rfl ?_
  refine hj_callV (ci := 12) (M' := mX12_isBook) (h' := 2) (As := [.int a1]) mfX12_isBook mvX12_isBook ⟨_, _, rfl⟩ mlX12_343 dX12_lay_2 (kX12_isBook G _ _ _) (fun _ hr => cX12_isBookk hr) ⟨Nat.le_of_ble_eq_true rfl, Nat.le_of_ble_eq_true rfl⟩ ⟨Nat.le_refl _, Nat.le_refl _⟩ rfl (Nat.le_of_ble_eq_true rfl) (fun r7 σ6 _ => ?_)
  refine hj_if_eq 21 dX12_lay_5 (by decide) (fun _ => ?_) (fun _ => ?_)
  · refine hj_iconst (-1 : Int32) dX12_lay_21 (by decide) ?_
    exact hj_iret dX12_lay_22 rfl rfl (Nat.le_refl _)
  · refine hj_iload_n 2 dX12_lay_8 rfl ?_
    refine hj_sipush (-999 : Int32) dX12_lay_9 (by decide) ?_
    refine hj_sipush (999 : Int32) dX12_lay_12 (by decide) ?_
    refine hj_callS (M' := mX12_in) (h' := 1) (As := [.int a2, .int ((-999 : Int32)), .int ((999 : Int32))]) mfX12_in msX12_in mlX12_298 dX12_lay_15 (kX12_in G _ _ _ _) ⟨Nat.le_of_ble_eq_true rfl, Nat.le_of_ble_eq_true rfl⟩ ⟨Nat.le_refl _, Nat.le_refl _⟩ rfl (Nat.le_of_ble_eq_true rfl) (fun r9 σ8 _ => ?_)
    refine hj_if_ne 23 dX12_lay_18 (by decide) (fun _ => ?_) (fun _ => ?_)
    · refine hj_aload_n 0 dX12_lay_23 rfl ?_
      refine hj_callV (ci := 12) (M' := mX12_copies) (h' := 1) (As := []) mfX12_copies mvX12_copies ⟨_, _, rfl⟩ mlX12_346 dX12_lay_24 (kX12_copies G _ _) (fun _ hr => cX12_copiesk hr) ⟨Nat.le_of_ble_eq_true rfl, Nat.le_of_ble_eq_true rfl⟩ ⟨Nat.le_refl _, Nat.le_refl _⟩ rfl (Nat.le_of_ble_eq_true rfl) (fun _ σ10 _ => ?_)
      refine hj_aload_n 0 dX12_lay_27 rfl ?_
      refine hj_iload_n 1 dX12_lay_28 rfl ?_
      refine hj_callV (ci := 12) (M' := mX12_levelOf) (h' := 1) (As := [.int a1]) mfX12_levelOf mvX12_levelOf ⟨_, _, rfl⟩ mlX12_349 dX12_lay_29 (kX12_levelOf G _ _ _) (fun _ hr => cX12_levelOfk hr) ⟨Nat.le_of_ble_eq_true rfl, Nat.le_of_ble_eq_true rfl⟩ ⟨Nat.le_refl _, Nat.le_refl _⟩ rfl (Nat.le_of_ble_eq_true rfl) (fun r12 σ11 _ => ?_)
      refine hj_if_lt 37 dX12_lay_32 (by decide) (fun _ => ?_) (fun _ => ?_)
      · refine hj_aload_n 0 dX12_lay_37 rfl ?_
        refine hj_getR flX12_110 dX12_lay_38 (fun t13 _ => ?_)
        refine hj_bipush (18 : Int32) dX12_lay_41 (by decide) ?_
        refine hj_iald dX12_lay_43 (fun t14 _ => ?_)
        refine hj_istore (lv' := [(0, .ref a0), (1, .int a1), (2, .int a2), (3, .int a3), (4, .int t14)]) dX12_lay_44 (by decide) [1, 2, 3, 4, 0] rfl ?_
        refine hj_aload_n 0 dX12_lay_46 rfl ?_
        refine hj_getR flX12_110 dX12_lay_47 (fun t15 _ => ?_)
        refine hj_iload 4 dX12_lay_50 rfl ?_
        refine hj_iload_n 1 dX12_lay_52 rfl ?_
        refine hj_iast dX12_lay_53 (fun σ16 _ => ?_)
        refine hj_aload_n 0 dX12_lay_54 rfl ?_
        refine hj_getR flX12_110 dX12_lay_55 (fun t17 _ => ?_)
        refine hj_bipush (6 : Int32) dX12_lay_58 (by decide) ?_
        refine hj_iload 4 dX12_lay_60 rfl ?_
        refine hj_iadd dX12_lay_62 ?_
        refine hj_iload_n 2 dX12_lay_63 rfl ?_
        refine hj_iast dX12_lay_64 (fun σ18 _ => ?_)
        refine hj_aload_n 0 dX12_lay_65 rfl ?_
        refine hj_getR flX12_110 dX12_lay_66 (fun t19 _ => ?_)
        refine hj_bipush (12 : Int32) dX12_lay_69 (by decide) ?_
        refine hj_iload 4 dX12_lay_71 rfl ?_
        refine hj_iadd dX12_lay_73 ?_
        refine hj_iload_n 3 dX12_lay_74 rfl ?_
        refine hj_if_eq 82 dX12_lay_75 (by decide) (fun _ => ?_) (fun _ => ?_)
        · refine hj_iconst (0 : Int32) dX12_lay_82 (by decide) ?_
          refine hj_loc (lv' := [(0, .ref a0), (4, .int t14)]) [0, 4] rfl ?_
          exact sX12_lay_b83 _ _ _ _ _ _
        · refine hj_iconst (1 : Int32) dX12_lay_78 (by decide) ?_
          refine hj_goto 83 dX12_lay_79 (by decide) ?_
          refine hj_loc (lv' := [(0, .ref a0), (4, .int t14)]) [0, 4] rfl ?_
          exact sX12_lay_b83 _ _ _ _ _ _
      · refine hj_iconst (-1 : Int32) dX12_lay_35 (by decide) ?_
        exact hj_iret dX12_lay_36 rfl rfl (Nat.le_refl _)
    · refine hj_iconst (-1 : Int32) dX12_lay_21 (by decide) ?_
      exact hj_iret dX12_lay_22 rfl rfl (Nat.le_refl _)
theorem cX12_layk {a0 : Nat} {a1 : Int32} {a2 : Int32} {a3 : Int32} {σ : Sto} {r : Int32 × Sto} (h : fX12_lay a0 a1 a2 a3 σ = some r) : ∃ fs, hs_o σ 12 a0 = some fs := (ck_of h).1
def fX12_lift (a0 : Nat) (σ : Sto) : Option (Int32 × Sto) := ck σ 12 a0 ((gR σ 12 a0 47).bind fun t1 => ((aI σ 2 t1 ((18 : Int32))).bind fun t2 => (if t2 = 0 then (some ((-1 : Int32), σ)) else (cb (fX12_copies a0 σ) fun _ σ3 => ((gR σ3 12 a0 48).bind fun t4 => ((aI σ3 2 t4 ((18 : Int32))).bind fun t5 => ((sI σ3 2 t4 ((18 : Int32)) ((t5 - ((1 : Int32))))).bind fun σ6 => ((gR σ6 12 a0 48).bind fun t7 => ((gR σ6 12 a0 48).bind fun t8 => ((aI σ6 2 t8 ((18 : Int32))).bind fun t9 => ((aI σ6 2 t7 t9).bind fun t10 => (cb (fX12_keeps a0 σ6) fun _ σ11 => (some (t10, σ11))))))))))))))
set_option maxHeartbeats 2000000 in
theorem kX12_lift (G : GP) (a0 : Nat) (σ : Sto) : Me G mX12_lift 2 0 0 jI [.ref a0] σ (fX12_lift a0 σ) := by
  refine hs_me (lv := [(0, .ref a0)]) (plainFor_of_name (by decide +kernel)) (Nat.le_of_ble_eq_true rfl) rfl ?_
  unfold fX12_lift
  refine hj_ck ?_
  refine hj_aload_n 0 dX12_lift_0 rfl ?_
  refine hj_getR flX12_107 dX12_lift_1 (fun t1 _ => ?_)
  refine hj_bipush (18 : Int32) dX12_lift_4 (by decide) ?_
  refine hj_iald dX12_lift_6 (fun t2 _ => ?_)
  refine hj_if_ne 12 dX12_lift_7 (by decide) (fun _ => ?_) (fun _ => ?_)
  · refine hj_aload_n 0 dX12_lift_12 rfl ?_
    refine hj_callV (ci := 12) (M' := mX12_copies) (h' := 1) (As := []) mfX12_copies mvX12_copies ⟨_, _, rfl⟩ mlX12_346 dX12_lift_13 (kX12_copies G _ _) (fun _ hr => cX12_copiesk hr) ⟨Nat.le_of_ble_eq_true rfl, Nat.le_of_ble_eq_true rfl⟩ ⟨Nat.le_refl _, Nat.le_refl _⟩ rfl (Nat.le_of_ble_eq_true rfl) (fun _ σ3 _ => ?_)
    refine hj_aload_n 0 dX12_lift_16 rfl ?_
    refine hj_getR flX12_110 dX12_lift_17 (fun t4 _ => ?_)
    refine hj_bipush (18 : Int32) dX12_lift_20 (by decide) ?_
    refine hj_dup2 dX12_lift_22 rfl rfl ?_
    refine hj_iald dX12_lift_23 (fun t5 _ => ?_)
    refine hj_iconst (1 : Int32) dX12_lift_24 (by decide) ?_
    refine hj_isub dX12_lift_25 ?_
    refine hj_iast dX12_lift_26 (fun σ6 _ => ?_)
    refine hj_aload_n 0 dX12_lift_27 rfl ?_
    refine hj_getR flX12_110 dX12_lift_28 (fun t7 _ => ?_)
    refine hj_aload_n 0 dX12_lift_31 rfl ?_
    refine hj_getR flX12_110 dX12_lift_32 (fun t8 _ => ?_)
    refine hj_bipush (18 : Int32) dX12_lift_35 (by decide) ?_
    refine hj_iald dX12_lift_37 (fun t9 _ => ?_)
    refine hj_iald dX12_lift_38 (fun t10 _ => ?_)
    refine hj_istore_n (lv' := [(0, .ref a0), (1, .int t10)]) dX12_lift_39 (by decide) [1, 0] rfl ?_
    refine hj_aload_n 0 dX12_lift_40 rfl ?_
    refine hj_callV (ci := 12) (M' := mX12_keeps) (h' := 1) (As := []) mfX12_keeps mvX12_keeps ⟨_, _, rfl⟩ mlX12_367 dX12_lift_41 (kX12_keeps G _ _) (fun _ hr => cX12_keepsk hr) ⟨Nat.le_of_ble_eq_true rfl, Nat.le_of_ble_eq_true rfl⟩ ⟨Nat.le_refl _, Nat.le_refl _⟩ rfl (Nat.le_of_ble_eq_true rfl) (fun _ σ11 _ => ?_)
    refine hj_iload_n 1 dX12_lift_44 rfl ?_
    exact hj_iret dX12_lift_45 rfl rfl (Nat.le_refl _)
  · refine hj_iconst (-1 : Int32) dX12_lift_10 (by decide) ?_
    exact hj_iret dX12_lift_11 rfl rfl (Nat.le_refl _)
theorem cX12_liftk {a0 : Nat} {σ : Sto} {r : Int32 × Sto} (h : fX12_lift a0 σ = some r) : ∃ fs, hs_o σ 12 a0 = some fs := (ck_of h).1
def fX12_shifts_b2 : Nat → Nat → Int32 → Int32 → Sto → Option (Unit × Sto)
  | 0, _, _, _, _ => none
  | n + 1, x0, x2, x3, σ => ((gR σ 12 x0 48).bind fun t1 => ((aI σ 2 t1 ((18 : Int32))).bind fun t2 => (if t2 ≤ x3 then (some ((), σ)) else ((gR σ 12 x0 48).bind fun t3 => ((aI σ 2 t3 ((((6 : Int32)) + x3))).bind fun t4 => ((sI σ 2 t3 ((((6 : Int32)) + x3)) ((t4 + x2))).bind fun σ5 => (fX12_shifts_b2 n x0 x2 (x3 + (1 : Int32)) σ5)))))))
set_option maxHeartbeats 2000000 in
theorem sX12_shifts_b2 {G : GP} {n0 : Nat} : ∀ (n : Nat) (x0 : Nat) (x2 : Int32) (x3 : Int32) (σ : Sto), Sim G mX12_shifts 1 0 0 n0 jV 0 0 2 [(0, .ref x0), (2, .int x2), (3, .int x3)] [] σ (fX12_shifts_b2 n x0 x2 x3 σ) := by
  intro n
  induction n with
  | zero => intros; rw [fX12_shifts_b2]; exact hj_none
  | succ n ih =>
    intro x0 x2 x3 σ
    rw [fX12_shifts_b2]
    refine hj_iload_n 2 dX12_shifts_2 rfl ?_
    refine hj_aload_n 0 dX12_shifts_3 rfl ?_
    refine hj_getR flX12_110 dX12_shifts_4 (fun t1 _ => ?_)
    refine hj_bipush (18 : Int32) dX12_shifts_7 (by decide) ?_
    refine hj_iald dX12_shifts_9 (fun t2 _ => ?_)
    refine hj_icmp_ge 32 dX12_shifts_10 (by decide) (fun _ => ?_) (fun _ => ?_)
    · exact hj_vret dX12_shifts_32 rfl rfl (Nat.le_refl _)
    · refine hj_aload_n 0 dX12_shifts_13 rfl ?_
      refine hj_getR flX12_110 dX12_shifts_14 (fun t3 _ => ?_)
      refine hj_bipush (6 : Int32) dX12_shifts_17 (by decide) ?_
      refine hj_iload_n 2 dX12_shifts_19 rfl ?_
      refine hj_iadd dX12_shifts_20 ?_
      refine hj_dup2 dX12_shifts_21 rfl rfl ?_
      refine hj_iald dX12_shifts_22 (fun t4 _ => ?_)
      refine hj_iload_n 1 dX12_shifts_23 rfl ?_
      refine hj_iadd dX12_shifts_24 ?_
      refine hj_iast dX12_shifts_25 (fun σ5 _ => ?_)
      refine hj_iinc (lv' := [(0, .ref x0), (2, .int x2), (3, .int (x3 + (1 : Int32)))]) 2 (1 : Int32) dX12_shifts_26 rfl (by decide) (by decide) [1, 2, 0] rfl ?_
      refine hj_goto 2 dX12_shifts_29 (by decide) ?_
      refine hj_loc (lv' := [(0, .ref x0), (2, .int x2), (3, .int (x3 + (1 : Int32)))]) [0, 1, 2] rfl ?_
      exact ih _ _ _ _
def fX12_shifts (a0 : Nat) (a1 : Int32) (a2 : Int32) (σ : Sto) : Option (Unit × Sto) := ck σ 12 a0 (fX12_shifts_b2 FU a0 a2 a1 σ)
set_option maxHeartbeats 2000000 in
theorem kX12_shifts (G : GP) (a0 : Nat) (a1 : Int32) (a2 : Int32) (σ : Sto) : Me G mX12_shifts 1 0 0 jV [.ref a0, .int a1, .int a2] σ (fX12_shifts a0 a1 a2 σ) := by
  refine hs_me (lv := [(0, .ref a0), (1, .int a1), (2, .int a2)]) (plainFor_of_name (by decide +kernel)) (Nat.le_of_ble_eq_true rfl) rfl ?_
  unfold fX12_shifts
  refine hj_ck ?_
  refine hj_iload_n 1 dX12_shifts_0 rfl ?_
  refine hj_istore_n (lv' := [(0, .ref a0), (1, .int a1), (2, .int a2), (3, .int a1)]) dX12_shifts_1 (by decide) [1, 2, 3, 0] rfl ?_
  refine hj_loc (lv' := [(0, .ref a0), (2, .int a2), (3, .int a1)]) [0, 2, 3] rfl ?_
  exact sX12_shifts_b2 _ _ _ _ _
theorem cX12_shiftsk {a0 : Nat} {a1 : Int32} {a2 : Int32} {σ : Sto} {r : Unit × Sto} (h : fX12_shifts a0 a1 a2 σ = some r) : ∃ fs, hs_o σ 12 a0 = some fs := (ck_of h).1
def fX12_move_b75 (x0 : Nat) (σ : Sto) : Option (Int32 × Sto) := (cb (fX12_keeps x0 σ) fun _ σ1 => (some ((1 : Int32), σ1)))
set_option maxHeartbeats 2000000 in
theorem sX12_move_b75 {G : GP} {n0 : Nat} : ∀ (x0 : Nat) (σ : Sto), Sim G mX12_move 3 0 0 n0 jI 0 0 75 [(0, .ref x0)] [] σ (fX12_move_b75 x0 σ) := by
  intro x0 σ
  unfold fX12_move_b75
  refine hj_aload_n 0 dX12_move_75 rfl ?_
  refine hj_callV (ci := 12) (M' := mX12_keeps) (h' := 1) (As := []) mfX12_keeps mvX12_keeps ⟨_, _, rfl⟩ mlX12_367 dX12_move_76 (kX12_keeps G _ _) (fun _ hr => cX12_keepsk hr) ⟨Nat.le_of_ble_eq_true rfl, Nat.le_of_ble_eq_true rfl⟩ ⟨Nat.le_refl _, Nat.le_refl _⟩ rfl (Nat.le_of_ble_eq_true rfl) (fun _ σ1 _ => ?_)
  refine hj_iconst (1 : Int32) dX12_move_79 (by decide) ?_
  exact hj_zret dX12_move_80 rfl (by decide) rfl (Nat.le_refl _)
def fX12_move_b35 : Nat → Nat → Int32 → Sto → Option (Int32 × Sto)
  | 0, _, _, _ => none
  | n + 1, x0, x3, σ => ((gR σ 12 x0 48).bind fun t2 => ((aI σ 2 t2 ((18 : Int32))).bind fun t3 => (if t3 ≤ x3 then (fX12_move_b75 x0 σ) else ((gR σ 12 x0 48).bind fun t4 => ((aI σ 2 t4 ((((6 : Int32)) + x3))).bind fun t5 => (cb (fX12_in t5 ((-999 : Int32)) ((999 : Int32)) σ) fun r7 σ6 => (if r7 = 0 then (some ((0 : Int32), σ6)) else (fX12_move_b35 n x0 (x3 + (1 : Int32)) σ6))))))))
set_option maxHeartbeats 2000000 in
theorem sX12_move_b35 {G : GP} {n0 : Nat} : ∀ (n : Nat) (x0 : Nat) (x3 : Int32) (σ : Sto), Sim G mX12_move 3 0 0 n0 jI 0 0 35 [(0, .ref x0), (3, .int x3)] [] σ (fX12_move_b35 n x0 x3 σ) := by
  intro n
  induction n with
  | zero => intros; rw [fX12_move_b35]; exact hj_none
  | succ n ih =>
    intro x0 x3 σ
    rw [fX12_move_b35]
    refine hj_iload_n 1 dX12_move_35 rfl ?_
    refine hj_aload_n 0 dX12_move_36 rfl ?_
    refine hj_getR flX12_110 dX12_move_37 (fun t2 _ => ?_)
    refine hj_bipush (18 : Int32) dX12_move_40 (by decide) ?_
    refine hj_iald dX12_move_42 (fun t3 _ => ?_)
    refine hj_icmp_ge 75 dX12_move_43 (by decide) (fun _ => ?_) (fun _ => ?_)
    · refine hj_loc (lv' := [(0, .ref x0)]) [0] rfl ?_
      exact sX12_move_b75 _ _
    · refine hj_aload_n 0 dX12_move_46 rfl ?_
      refine hj_getR flX12_110 dX12_move_47 (fun t4 _ => ?_)
      refine hj_bipush (6 : Int32) dX12_move_50 (by decide) ?_
      refine hj_iload_n 1 dX12_move_52 rfl ?_
      refine hj_iadd dX12_move_53 ?_
      refine hj_iald dX12_move_54 (fun t5 _ => ?_)
      refine hj_sipush (-999 : Int32) dX12_move_55 (by decide) ?_
      refine hj_sipush (999 : Int32) dX12_move_58 (by decide) ?_
      refine hj_callS (M' := mX12_in) (h' := 1) (As := [.int t5, .int ((-999 : Int32)), .int ((999 : Int32))]) mfX12_in msX12_in mlX12_298 dX12_move_61 (kX12_in G _ _ _ _) ⟨Nat.le_of_ble_eq_true rfl, Nat.le_of_ble_eq_true rfl⟩ ⟨Nat.le_refl _, Nat.le_refl _⟩ rfl (Nat.le_of_ble_eq_true rfl) (fun r7 σ6 _ => ?_)
      refine hj_if_ne 69 dX12_move_64 (by decide) (fun _ => ?_) (fun _ => ?_)
      · refine hj_iinc (lv' := [(0, .ref x0), (3, .int (x3 + (1 : Int32)))]) 1 (1 : Int32) dX12_move_69 rfl (by decide) (by decide) [1, 0] rfl ?_
        refine hj_goto 35 dX12_move_72 (by decide) ?_
        refine hj_loc (lv' := [(0, .ref x0), (3, .int (x3 + (1 : Int32)))]) [0, 1] rfl ?_
        exact ih _ _ _
      · refine hj_iconst (0 : Int32) dX12_move_67 (by decide) ?_
        exact hj_zret dX12_move_68 rfl (by decide) rfl (Nat.le_refl _)
def fX12_move (a0 : Nat) (a1 : Int32) (a2 : Int32) (σ : Sto) : Option (Int32 × Sto) := ck σ 12 a0 (cb (fX12_isLevel a0 a1 σ) fun r9 σ8 => (if r9 = 0 then (some ((0 : Int32), σ8)) else (cb (fX12_in a2 ((-1998 : Int32)) ((1998 : Int32)) σ8) fun r11 σ10 => (if r11 = 0 then (some ((0 : Int32), σ10)) else (cb (fX12_copies a0 σ10) fun _ σ12 => (cb (fX12_shifts a0 a1 a2 σ12) fun _ σ13 => (fX12_move_b35 FU a0 a1 σ13)))))))
set_option maxHeartbeats 2000000 in
theorem kX12_move (G : GP) (a0 : Nat) (a1 : Int32) (a2 : Int32) (σ : Sto) : Me G mX12_move 3 0 0 jI [.ref a0, .int a1, .int a2] σ (fX12_move a0 a1 a2 σ) := by
  refine hs_me (lv := [(0, .ref a0), (1, .int a1), (2, .int a2)]) (plainFor_of_name (by decide +kernel)) (Nat.le_of_ble_eq_true rfl) rfl ?_
  unfold fX12_move
  refine hj_ck ?_
  refine hj_aload_n 0 dX12_move_0 rfl ?_
  refine hj_iload_n 1 dX12_move_1 rfl ?_
  refine hj_callV (ci := 12) (M' := mX12_isLevel) (h' := 2) (As := [.int a1]) mfX12_isLevel mvX12_isLevel ⟨_, _, rfl⟩ mlX12_352 dX12_move_2 (kX12_isLevel G _ _ _) (fun _ hr => cX12_isLevelk hr) ⟨Nat.le_of_ble_eq_true rfl, Nat.le_of_ble_eq_true rfl⟩ ⟨Nat.le_refl _, Nat.le_refl _⟩ rfl (Nat.le_of_ble_eq_true rfl) (fun r9 σ8 _ => ?_)
  refine hj_if_eq 21 dX12_move_5 (by decide) (fun _ => ?_) (fun _ => ?_)
  · refine hj_iconst (0 : Int32) dX12_move_21 (by decide) ?_
    exact hj_zret dX12_move_22 rfl (by decide) rfl (Nat.le_refl _)
  · refine hj_iload_n 2 dX12_move_8 rfl ?_
    refine hj_sipush (-1998 : Int32) dX12_move_9 (by decide) ?_
    refine hj_sipush (1998 : Int32) dX12_move_12 (by decide) ?_
    refine hj_callS (M' := mX12_in) (h' := 1) (As := [.int a2, .int ((-1998 : Int32)), .int ((1998 : Int32))]) mfX12_in msX12_in mlX12_298 dX12_move_15 (kX12_in G _ _ _ _) ⟨Nat.le_of_ble_eq_true rfl, Nat.le_of_ble_eq_true rfl⟩ ⟨Nat.le_refl _, Nat.le_refl _⟩ rfl (Nat.le_of_ble_eq_true rfl) (fun r11 σ10 _ => ?_)
    refine hj_if_ne 23 dX12_move_18 (by decide) (fun _ => ?_) (fun _ => ?_)
    · refine hj_aload_n 0 dX12_move_23 rfl ?_
      refine hj_callV (ci := 12) (M' := mX12_copies) (h' := 1) (As := []) mfX12_copies mvX12_copies ⟨_, _, rfl⟩ mlX12_346 dX12_move_24 (kX12_copies G _ _) (fun _ hr => cX12_copiesk hr) ⟨Nat.le_of_ble_eq_true rfl, Nat.le_of_ble_eq_true rfl⟩ ⟨Nat.le_refl _, Nat.le_refl _⟩ rfl (Nat.le_of_ble_eq_true rfl) (fun _ σ12 _ => ?_)
      refine hj_aload_n 0 dX12_move_27 rfl ?_
      refine hj_iload_n 1 dX12_move_28 rfl ?_
      refine hj_iload_n 2 dX12_move_29 rfl ?_
      refine hj_callV (ci := 12) (M' := mX12_shifts) (h' := 1) (As := [.int a1, .int a2]) mfX12_shifts mvX12_shifts ⟨_, _, rfl⟩ mlX12_370 dX12_move_30 (kX12_shifts G _ _ _ _) (fun _ hr => cX12_shiftsk hr) ⟨Nat.le_of_ble_eq_true rfl, Nat.le_of_ble_eq_true rfl⟩ ⟨Nat.le_refl _, Nat.le_refl _⟩ rfl (Nat.le_of_ble_eq_true rfl) (fun _ σ13 _ => ?_)
      refine hj_iload_n 1 dX12_move_33 rfl ?_
      refine hj_istore_n (lv' := [(0, .ref a0), (1, .int a1), (2, .int a2), (3, .int a1)]) dX12_move_34 (by decide) [1, 2, 3, 0] rfl ?_
      refine hj_loc (lv' := [(0, .ref a0), (3, .int a1)]) [0, 3] rfl ?_
      exact sX12_move_b35 _ _ _ _
    · refine hj_iconst (0 : Int32) dX12_move_21 (by decide) ?_
      exact hj_zret dX12_move_22 rfl (by decide) rfl (Nat.le_refl _)
theorem cX12_movek {a0 : Nat} {a1 : Int32} {a2 : Int32} {σ : Sto} {r : Int32 × Sto} (h : fX12_move a0 a1 a2 σ = some r) : ∃ fs, hs_o σ 12 a0 = some fs := (ck_of h).1
def fX12_undo_b21 : Nat → Nat → Int32 → Sto → Option (Int32 × Sto)
  | 0, _, _, _ => none
  | n + 1, x0, x1, σ => (if (20 : Int32) ≤ x1 then (some ((1 : Int32), σ)) else ((gR σ 12 x0 47).bind fun t1 => ((gR σ 12 x0 56).bind fun t2 => ((gI σ 12 x0 55).bind fun t3 => ((aI σ 2 t2 ((((((20 : Int32)) * t3)) + x1))).bind fun t4 => ((sI σ 2 t1 x1 t4).bind fun σ5 => (fX12_undo_b21 n x0 (x1 + (1 : Int32)) σ5)))))))
set_option maxHeartbeats 2000000 in
theorem sX12_undo_b21 {G : GP} {n0 : Nat} : ∀ (n : Nat) (x0 : Nat) (x1 : Int32) (σ : Sto), Sim G mX12_undo 1 0 0 n0 jI 0 0 21 [(0, .ref x0), (1, .int x1)] [] σ (fX12_undo_b21 n x0 x1 σ) := by
  intro n
  induction n with
  | zero => intros; rw [fX12_undo_b21]; exact hj_none
  | succ n ih =>
    intro x0 x1 σ
    rw [fX12_undo_b21]
    refine hj_iload_n 1 dX12_undo_21 rfl ?_
    refine hj_bipush (20 : Int32) dX12_undo_22 (by decide) ?_
    refine hj_icmp_ge 53 dX12_undo_24 (by decide) (fun _ => ?_) (fun _ => ?_)
    · refine hj_iconst (1 : Int32) dX12_undo_53 (by decide) ?_
      exact hj_zret dX12_undo_54 rfl (by decide) rfl (Nat.le_refl _)
    · refine hj_aload_n 0 dX12_undo_27 rfl ?_
      refine hj_getR flX12_107 dX12_undo_28 (fun t1 _ => ?_)
      refine hj_iload_n 1 dX12_undo_31 rfl ?_
      refine hj_aload_n 0 dX12_undo_32 rfl ?_
      refine hj_getR flX12_122 dX12_undo_33 (fun t2 _ => ?_)
      refine hj_bipush (20 : Int32) dX12_undo_36 (by decide) ?_
      refine hj_aload_n 0 dX12_undo_38 rfl ?_
      refine hj_getI flX12_239 dX12_undo_39 (fun t3 _ => ?_)
      refine hj_imul dX12_undo_42 ?_
      refine hj_iload_n 1 dX12_undo_43 rfl ?_
      refine hj_iadd dX12_undo_44 ?_
      refine hj_iald dX12_undo_45 (fun t4 _ => ?_)
      refine hj_iast dX12_undo_46 (fun σ5 _ => ?_)
      refine hj_iinc (lv' := [(0, .ref x0), (1, .int (x1 + (1 : Int32)))]) 1 (1 : Int32) dX12_undo_47 rfl (by decide) (by decide) [1, 0] rfl ?_
      refine hj_goto 21 dX12_undo_50 (by decide) ?_
      refine hj_loc (lv' := [(0, .ref x0), (1, .int (x1 + (1 : Int32)))]) [0, 1] rfl ?_
      exact ih _ _ _
def fX12_undo (a0 : Nat) (σ : Sto) : Option (Int32 × Sto) := ck σ 12 a0 ((gI σ 12 a0 55).bind fun t6 => (if t6 = 0 then (some ((0 : Int32), σ)) else ((gI σ 12 a0 55).bind fun t7 => ((pV σ 12 a0 55 (.int ((t7 - ((1 : Int32)))))).bind fun σ8 => (fX12_undo_b21 FU a0 ((0 : Int32)) σ8)))))
set_option maxHeartbeats 2000000 in
theorem kX12_undo (G : GP) (a0 : Nat) (σ : Sto) : Me G mX12_undo 1 0 0 jI [.ref a0] σ (fX12_undo a0 σ) := by
  refine hs_me (lv := [(0, .ref a0)]) (plainFor_of_name (by decide +kernel)) (Nat.le_of_ble_eq_true rfl) rfl ?_
  unfold fX12_undo
  refine hj_ck ?_
  refine hj_aload_n 0 dX12_undo_0 rfl ?_
  refine hj_getI flX12_239 dX12_undo_1 (fun t6 _ => ?_)
  refine hj_if_ne 9 dX12_undo_4 (by decide) (fun _ => ?_) (fun _ => ?_)
  · refine hj_aload_n 0 dX12_undo_9 rfl ?_
    refine hj_dup dX12_undo_10 rfl ?_
    refine hj_getI flX12_239 dX12_undo_11 (fun t7 _ => ?_)
    refine hj_iconst (1 : Int32) dX12_undo_14 (by decide) ?_
    refine hj_isub dX12_undo_15 ?_
    refine hj_put (fpX12_239 _) (fun _ => rfl) (fun _ => rfl) dX12_undo_16 (fun σ8 _ => ?_)
    refine hj_iconst (0 : Int32) dX12_undo_19 (by decide) ?_
    refine hj_istore_n (lv' := [(0, .ref a0), (1, .int (0 : Int32))]) dX12_undo_20 (by decide) [1, 0] rfl ?_
    refine hj_loc (lv' := [(0, .ref a0), (1, .int (0 : Int32))]) [0, 1] rfl ?_
    exact sX12_undo_b21 _ _ _ _
  · refine hj_iconst (0 : Int32) dX12_undo_7 (by decide) ?_
    exact hj_zret dX12_undo_8 rfl (by decide) rfl (Nat.le_refl _)
theorem cX12_undok {a0 : Nat} {σ : Sto} {r : Int32 × Sto} (h : fX12_undo a0 σ = some r) : ∃ fs, hs_o σ 12 a0 = some fs := (ck_of h).1
def fX12_canSit (a0 : Nat) (a1 : Int32) (a2 : Int32) (σ : Sto) : Option (Int32 × Sto) := ck σ 12 a0 (cb (fX12_isBook a0 a1 σ) fun r2 σ1 => (if r2 = 0 then (some ((0 : Int32), σ1)) else ((gR σ1 12 a0 23).bind fun t3 => ((gI σ1 12 a0 18).bind fun t4 => ((aI σ1 2 t3 ((((((6 : Int32)) * t4)) + a1))).bind fun t5 => (cb (fX12_in a2 ((0 : Int32)) t5 σ1) fun r7 σ6 => (if r7 = 0 then (some ((0 : Int32), σ6)) else (cb (fX12_copies a0 σ6) fun _ σ8 => (cb (fX12_levelOf a0 a1 σ8) fun r10 σ9 => (if 0 ≤ r10 then ((pV σ9 12 a0 50 (.int a1)).bind fun σ11 => ((pV σ11 12 a0 51 (.int a2)).bind fun σ12 => (some ((1 : Int32), σ12)))) else (some ((0 : Int32), σ9))))))))))))
set_option maxHeartbeats 2000000 in
theorem kX12_canSit (G : GP) (a0 : Nat) (a1 : Int32) (a2 : Int32) (σ : Sto) : Me G mX12_canSit 3 0 0 jI [.ref a0, .int a1, .int a2] σ (fX12_canSit a0 a1 a2 σ) := by
  refine hs_me (lv := [(0, .ref a0), (1, .int a1), (2, .int a2)]) (plainFor_of_name (by decide +kernel)) (Nat.le_of_ble_eq_true rfl) rfl ?_
  unfold fX12_canSit
  refine hj_ck ?_
  refine hj_aload_n 0 dX12_canSit_0 rfl ?_
  refine hj_iload_n 1 dX12_canSit_1 rfl ?_
  refine hj_callV (ci := 12) (M' := mX12_isBook) (h' := 2) (As := [.int a1]) mfX12_isBook mvX12_isBook ⟨_, _, rfl⟩ mlX12_343 dX12_canSit_2 (kX12_isBook G _ _ _) (fun _ hr => cX12_isBookk hr) ⟨Nat.le_of_ble_eq_true rfl, Nat.le_of_ble_eq_true rfl⟩ ⟨Nat.le_refl _, Nat.le_refl _⟩ rfl (Nat.le_of_ble_eq_true rfl) (fun r2 σ1 _ => ?_)
  refine hj_if_eq 30 dX12_canSit_5 (by decide) (fun _ => ?_) (fun _ => ?_)
  · refine hj_iconst (0 : Int32) dX12_canSit_30 (by decide) ?_
    exact hj_zret dX12_canSit_31 rfl (by decide) rfl (Nat.le_refl _)
  · refine hj_iload_n 2 dX12_canSit_8 rfl ?_
    refine hj_iconst (0 : Int32) dX12_canSit_9 (by decide) ?_
    refine hj_aload_n 0 dX12_canSit_10 rfl ?_
    refine hj_getR flX12_46 dX12_canSit_11 (fun t3 _ => ?_)
    refine hj_bipush (6 : Int32) dX12_canSit_14 (by decide) ?_
    refine hj_aload_n 0 dX12_canSit_16 rfl ?_
    refine hj_getI flX12_221 dX12_canSit_17 (fun t4 _ => ?_)
    refine hj_imul dX12_canSit_20 ?_
    refine hj_iload_n 1 dX12_canSit_21 rfl ?_
    refine hj_iadd dX12_canSit_22 ?_
    refine hj_iald dX12_canSit_23 (fun t5 _ => ?_)
    refine hj_callS (M' := mX12_in) (h' := 1) (As := [.int a2, .int ((0 : Int32)), .int t5]) mfX12_in msX12_in mlX12_298 dX12_canSit_24 (kX12_in G _ _ _ _) ⟨Nat.le_of_ble_eq_true rfl, Nat.le_of_ble_eq_true rfl⟩ ⟨Nat.le_refl _, Nat.le_refl _⟩ rfl (Nat.le_of_ble_eq_true rfl) (fun r7 σ6 _ => ?_)
    refine hj_if_ne 32 dX12_canSit_27 (by decide) (fun _ => ?_) (fun _ => ?_)
    · refine hj_aload_n 0 dX12_canSit_32 rfl ?_
      refine hj_callV (ci := 12) (M' := mX12_copies) (h' := 1) (As := []) mfX12_copies mvX12_copies ⟨_, _, rfl⟩ mlX12_346 dX12_canSit_33 (kX12_copies G _ _) (fun _ hr => cX12_copiesk hr) ⟨Nat.le_of_ble_eq_true rfl, Nat.le_of_ble_eq_true rfl⟩ ⟨Nat.le_refl _, Nat.le_refl _⟩ rfl (Nat.le_of_ble_eq_true rfl) (fun _ σ8 _ => ?_)
      refine hj_aload_n 0 dX12_canSit_36 rfl ?_
      refine hj_iload_n 1 dX12_canSit_37 rfl ?_
      refine hj_callV (ci := 12) (M' := mX12_levelOf) (h' := 1) (As := [.int a1]) mfX12_levelOf mvX12_levelOf ⟨_, _, rfl⟩ mlX12_349 dX12_canSit_38 (kX12_levelOf G _ _ _) (fun _ hr => cX12_levelOfk hr) ⟨Nat.le_of_ble_eq_true rfl, Nat.le_of_ble_eq_true rfl⟩ ⟨Nat.le_refl _, Nat.le_refl _⟩ rfl (Nat.le_of_ble_eq_true rfl) (fun r10 σ9 _ => ?_)
      refine hj_if_ge 46 dX12_canSit_41 (by decide) (fun _ => ?_) (fun _ => ?_)
      · refine hj_aload_n 0 dX12_canSit_46 rfl ?_
        refine hj_iload_n 1 dX12_canSit_47 rfl ?_
        refine hj_put (fpX12_305 _) (fun _ => rfl) (fun _ => rfl) dX12_canSit_48 (fun σ11 _ => ?_)
        refine hj_aload_n 0 dX12_canSit_51 rfl ?_
        refine hj_iload_n 2 dX12_canSit_52 rfl ?_
        refine hj_put (fpX12_322 _) (fun _ => rfl) (fun _ => rfl) dX12_canSit_53 (fun σ12 _ => ?_)
        refine hj_iconst (1 : Int32) dX12_canSit_56 (by decide) ?_
        exact hj_zret dX12_canSit_57 rfl (by decide) rfl (Nat.le_refl _)
      · refine hj_iconst (0 : Int32) dX12_canSit_44 (by decide) ?_
        exact hj_zret dX12_canSit_45 rfl (by decide) rfl (Nat.le_refl _)
    · refine hj_iconst (0 : Int32) dX12_canSit_30 (by decide) ?_
      exact hj_zret dX12_canSit_31 rfl (by decide) rfl (Nat.le_refl _)
theorem cX12_canSitk {a0 : Nat} {a1 : Int32} {a2 : Int32} {σ : Sto} {r : Int32 × Sto} (h : fX12_canSit a0 a1 a2 σ = some r) : ∃ fs, hs_o σ 12 a0 = some fs := (ck_of h).1
def fX12_bears_b18 : Nat → Nat → Sto → Option (Int32 × Sto)
  | 0, _, _ => none
  | n + 1, x0, σ => ((gI σ 12 x0 49).bind fun t1 => (if t1 < 0 then (some ((-2 : Int32), σ)) else (cb (fX12_tipsAt x0 σ) fun r3 σ2 => (if 0 ≤ r3 then ((gI σ2 12 x0 49).bind fun t4 => ((pV σ2 12 x0 49 (.int ((t4 - ((1 : Int32)))))).bind fun σ5 => (fX12_bears_b18 n x0 σ5))) else ((gI σ2 12 x0 49).bind fun t6 => (some (t6, σ2)))))))
set_option maxHeartbeats 2000000 in
theorem sX12_bears_b18 {G : GP} {n0 : Nat} : ∀ (n : Nat) (x0 : Nat) (σ : Sto), Sim G mX12_bears 6 0 0 n0 jI 0 0 18 [(0, .ref x0)] [] σ (fX12_bears_b18 n x0 σ) := by
  intro n
  induction n with
  | zero => intros; rw [fX12_bears_b18]; exact hj_none
  | succ n ih =>
    intro x0 σ
    rw [fX12_bears_b18]
    refine hj_aload_n 0 dX12_bears_18 rfl ?_
    refine hj_getI flX12_302 dX12_bears_19 (fun t1 _ => ?_)
    refine hj_if_lt 50 dX12_bears_22 (by decide) (fun _ => ?_) (fun _ => ?_)
    · refine hj_bipush (-2 : Int32) dX12_bears_50 (by decide) ?_
      exact hj_iret dX12_bears_52 rfl rfl (Nat.le_refl _)
    · refine hj_aload_n 0 dX12_bears_25 rfl ?_
      refine hj_callV (ci := 12) (M' := mX12_tipsAt) (h' := 5) (As := []) mfX12_tipsAt mvX12_tipsAt ⟨_, _, rfl⟩ mlX12_361 dX12_bears_26 (kX12_tipsAt G _ _) (fun _ hr => cX12_tipsAtk hr) ⟨Nat.le_of_ble_eq_true rfl, Nat.le_of_ble_eq_true rfl⟩ ⟨Nat.le_refl _, Nat.le_refl _⟩ rfl (Nat.le_of_ble_eq_true rfl) (fun r3 σ2 _ => ?_)
      refine hj_if_ge 37 dX12_bears_29 (by decide) (fun _ => ?_) (fun _ => ?_)
      · refine hj_aload_n 0 dX12_bears_37 rfl ?_
        refine hj_dup dX12_bears_38 rfl ?_
        refine hj_getI flX12_302 dX12_bears_39 (fun t4 _ => ?_)
        refine hj_iconst (1 : Int32) dX12_bears_42 (by decide) ?_
        refine hj_isub dX12_bears_43 ?_
        refine hj_put (fpX12_302 _) (fun _ => rfl) (fun _ => rfl) dX12_bears_44 (fun σ5 _ => ?_)
        refine hj_goto 18 dX12_bears_47 (by decide) ?_
        refine hj_loc (lv' := [(0, .ref x0)]) [0] rfl ?_
        exact ih _ _
      · refine hj_aload_n 0 dX12_bears_32 rfl ?_
        refine hj_getI flX12_302 dX12_bears_33 (fun t6 _ => ?_)
        exact hj_iret dX12_bears_36 rfl rfl (Nat.le_refl _)
def fX12_bears (a0 : Nat) (a1 : Int32) (a2 : Int32) (σ : Sto) : Option (Int32 × Sto) := ck σ 12 a0 (cb (fX12_canSit a0 a1 a2 σ) fun r8 σ7 => (if r8 = 0 then (some ((-1 : Int32), σ7)) else ((pV σ7 12 a0 49 (.int ((9999 : Int32)))).bind fun σ9 => (fX12_bears_b18 FU a0 σ9))))
set_option maxHeartbeats 2000000 in
theorem kX12_bears (G : GP) (a0 : Nat) (a1 : Int32) (a2 : Int32) (σ : Sto) : Me G mX12_bears 6 0 0 jI [.ref a0, .int a1, .int a2] σ (fX12_bears a0 a1 a2 σ) := by
  refine hs_me (lv := [(0, .ref a0), (1, .int a1), (2, .int a2)]) (plainFor_of_name (by decide +kernel)) (Nat.le_of_ble_eq_true rfl) rfl ?_
  unfold fX12_bears
  refine hj_ck ?_
  refine hj_aload_n 0 dX12_bears_0 rfl ?_
  refine hj_iload_n 1 dX12_bears_1 rfl ?_
  refine hj_iload_n 2 dX12_bears_2 rfl ?_
  refine hj_callV (ci := 12) (M' := mX12_canSit) (h' := 3) (As := [.int a1, .int a2]) mfX12_canSit mvX12_canSit ⟨_, _, rfl⟩ mlX12_373 dX12_bears_3 (kX12_canSit G _ _ _ _) (fun _ hr => cX12_canSitk hr) ⟨Nat.le_of_ble_eq_true rfl, Nat.le_of_ble_eq_true rfl⟩ ⟨Nat.le_refl _, Nat.le_refl _⟩ rfl (Nat.le_of_ble_eq_true rfl) (fun r8 σ7 _ => ?_)
  refine hj_if_ne 11 dX12_bears_6 (by decide) (fun _ => ?_) (fun _ => ?_)
  · refine hj_aload_n 0 dX12_bears_11 rfl ?_
    refine hj_sipush (9999 : Int32) dX12_bears_12 (by decide) ?_
    refine hj_put (fpX12_302 _) (fun _ => rfl) (fun _ => rfl) dX12_bears_15 (fun σ9 _ => ?_)
    refine hj_loc (lv' := [(0, .ref a0)]) [0] rfl ?_
    exact sX12_bears_b18 _ _ _
  · refine hj_iconst (-1 : Int32) dX12_bears_9 (by decide) ?_
    exact hj_iret dX12_bears_10 rfl rfl (Nat.le_refl _)
theorem cX12_bearsk {a0 : Nat} {a1 : Int32} {a2 : Int32} {σ : Sto} {r : Int32 × Sto} (h : fX12_bears a0 a1 a2 σ = some r) : ∃ fs, hs_o σ 12 a0 = some fs := (ck_of h).1
def fX12_holds_b16 : Nat → Nat → Sto → Option (Int32 × Sto)
  | 0, _, _ => none
  | n + 1, x0, σ => ((gI σ 12 x0 49).bind fun t1 => (if (10000 : Int32) ≤ t1 then (some ((-2 : Int32), σ)) else (cb (fX12_tipsAt x0 σ) fun r3 σ2 => (if 0 ≤ r3 then ((gI σ2 12 x0 49).bind fun t4 => ((pV σ2 12 x0 49 (.int ((t4 + ((1 : Int32)))))).bind fun σ5 => (fX12_holds_b16 n x0 σ5))) else ((gI σ2 12 x0 49).bind fun t6 => (some (t6, σ2)))))))
set_option maxHeartbeats 2000000 in
theorem sX12_holds_b16 {G : GP} {n0 : Nat} : ∀ (n : Nat) (x0 : Nat) (σ : Sto), Sim G mX12_holds 6 0 0 n0 jI 0 0 16 [(0, .ref x0)] [] σ (fX12_holds_b16 n x0 σ) := by
  intro n
  induction n with
  | zero => intros; rw [fX12_holds_b16]; exact hj_none
  | succ n ih =>
    intro x0 σ
    rw [fX12_holds_b16]
    refine hj_aload_n 0 dX12_holds_16 rfl ?_
    refine hj_getI flX12_302 dX12_holds_17 (fun t1 _ => ?_)
    refine hj_sipush (10000 : Int32) dX12_holds_20 (by decide) ?_
    refine hj_icmp_ge 51 dX12_holds_23 (by decide) (fun _ => ?_) (fun _ => ?_)
    · refine hj_bipush (-2 : Int32) dX12_holds_51 (by decide) ?_
      exact hj_iret dX12_holds_53 rfl rfl (Nat.le_refl _)
    · refine hj_aload_n 0 dX12_holds_26 rfl ?_
      refine hj_callV (ci := 12) (M' := mX12_tipsAt) (h' := 5) (As := []) mfX12_tipsAt mvX12_tipsAt ⟨_, _, rfl⟩ mlX12_361 dX12_holds_27 (kX12_tipsAt G _ _) (fun _ hr => cX12_tipsAtk hr) ⟨Nat.le_of_ble_eq_true rfl, Nat.le_of_ble_eq_true rfl⟩ ⟨Nat.le_refl _, Nat.le_refl _⟩ rfl (Nat.le_of_ble_eq_true rfl) (fun r3 σ2 _ => ?_)
      refine hj_if_ge 38 dX12_holds_30 (by decide) (fun _ => ?_) (fun _ => ?_)
      · refine hj_aload_n 0 dX12_holds_38 rfl ?_
        refine hj_dup dX12_holds_39 rfl ?_
        refine hj_getI flX12_302 dX12_holds_40 (fun t4 _ => ?_)
        refine hj_iconst (1 : Int32) dX12_holds_43 (by decide) ?_
        refine hj_iadd dX12_holds_44 ?_
        refine hj_put (fpX12_302 _) (fun _ => rfl) (fun _ => rfl) dX12_holds_45 (fun σ5 _ => ?_)
        refine hj_goto 16 dX12_holds_48 (by decide) ?_
        refine hj_loc (lv' := [(0, .ref x0)]) [0] rfl ?_
        exact ih _ _
      · refine hj_aload_n 0 dX12_holds_33 rfl ?_
        refine hj_getI flX12_302 dX12_holds_34 (fun t6 _ => ?_)
        exact hj_iret dX12_holds_37 rfl rfl (Nat.le_refl _)
def fX12_holds (a0 : Nat) (a1 : Int32) (a2 : Int32) (σ : Sto) : Option (Int32 × Sto) := ck σ 12 a0 (cb (fX12_canSit a0 a1 a2 σ) fun r8 σ7 => (if r8 = 0 then (some ((-1 : Int32), σ7)) else ((pV σ7 12 a0 49 (.int ((0 : Int32)))).bind fun σ9 => (fX12_holds_b16 FU a0 σ9))))
set_option maxHeartbeats 2000000 in
theorem kX12_holds (G : GP) (a0 : Nat) (a1 : Int32) (a2 : Int32) (σ : Sto) : Me G mX12_holds 6 0 0 jI [.ref a0, .int a1, .int a2] σ (fX12_holds a0 a1 a2 σ) := by
  refine hs_me (lv := [(0, .ref a0), (1, .int a1), (2, .int a2)]) (plainFor_of_name (by decide +kernel)) (Nat.le_of_ble_eq_true rfl) rfl ?_
  unfold fX12_holds
  refine hj_ck ?_
  refine hj_aload_n 0 dX12_holds_0 rfl ?_
  refine hj_iload_n 1 dX12_holds_1 rfl ?_
  refine hj_iload_n 2 dX12_holds_2 rfl ?_
  refine hj_callV (ci := 12) (M' := mX12_canSit) (h' := 3) (As := [.int a1, .int a2]) mfX12_canSit mvX12_canSit ⟨_, _, rfl⟩ mlX12_373 dX12_holds_3 (kX12_canSit G _ _ _ _) (fun _ hr => cX12_canSitk hr) ⟨Nat.le_of_ble_eq_true rfl, Nat.le_of_ble_eq_true rfl⟩ ⟨Nat.le_refl _, Nat.le_refl _⟩ rfl (Nat.le_of_ble_eq_true rfl) (fun r8 σ7 _ => ?_)
  refine hj_if_ne 11 dX12_holds_6 (by decide) (fun _ => ?_) (fun _ => ?_)
  · refine hj_aload_n 0 dX12_holds_11 rfl ?_
    refine hj_iconst (0 : Int32) dX12_holds_12 (by decide) ?_
    refine hj_put (fpX12_302 _) (fun _ => rfl) (fun _ => rfl) dX12_holds_13 (fun σ9 _ => ?_)
    refine hj_loc (lv' := [(0, .ref a0)]) [0] rfl ?_
    exact sX12_holds_b16 _ _ _
  · refine hj_iconst (-1 : Int32) dX12_holds_9 (by decide) ?_
    exact hj_iret dX12_holds_10 rfl rfl (Nat.le_refl _)
theorem cX12_holdsk {a0 : Nat} {a1 : Int32} {a2 : Int32} {σ : Sto} {r : Int32 × Sto} (h : fX12_holds a0 a1 a2 σ = some r) : ∃ fs, hs_o σ 12 a0 = some fs := (ck_of h).1
def fX12_isStandingNow (a0 : Nat) (a1 : Int32) (σ : Sto) : Option (Int32 × Sto) := ck σ 12 a0 (cb (fX12_fillsLoads a0 σ) fun _ σ1 => (cb (fX12_isStanding a0 a1 σ1) fun r3 σ2 => (rZ r3 σ2)))
set_option maxHeartbeats 2000000 in
theorem kX12_isStandingNow (G : GP) (a0 : Nat) (a1 : Int32) (σ : Sto) : Me G mX12_isStandingNow 5 0 0 jI [.ref a0, .int a1] σ (fX12_isStandingNow a0 a1 σ) := by
  refine hs_me (lv := [(0, .ref a0), (1, .int a1)]) (plainFor_of_name (by decide +kernel)) (Nat.le_of_ble_eq_true rfl) rfl ?_
  unfold fX12_isStandingNow
  refine hj_ck ?_
  refine hj_aload_n 0 dX12_isStandingNow_0 rfl ?_
  refine hj_callV (ci := 12) (M' := mX12_fillsLoads) (h' := 4) (As := []) mfX12_fillsLoads mvX12_fillsLoads ⟨_, _, rfl⟩ mlX12_337 dX12_isStandingNow_1 (kX12_fillsLoads G _ _) (fun _ hr => cX12_fillsLoadsk hr) ⟨Nat.le_of_ble_eq_true rfl, Nat.le_of_ble_eq_true rfl⟩ ⟨Nat.le_refl _, Nat.le_refl _⟩ rfl (Nat.le_of_ble_eq_true rfl) (fun _ σ1 _ => ?_)
  refine hj_aload_n 0 dX12_isStandingNow_4 rfl ?_
  refine hj_iload_n 1 dX12_isStandingNow_5 rfl ?_
  refine hj_callV (ci := 12) (M' := mX12_isStanding) (h' := 4) (As := [.int a1]) mfX12_isStanding mvX12_isStanding ⟨_, _, rfl⟩ mlX12_340 dX12_isStandingNow_6 (kX12_isStanding G _ _ _) (fun _ hr => cX12_isStandingk hr) ⟨Nat.le_of_ble_eq_true rfl, Nat.le_of_ble_eq_true rfl⟩ ⟨Nat.le_refl _, Nat.le_refl _⟩ rfl (Nat.le_of_ble_eq_true rfl) (fun r3 σ2 _ => ?_)
  exact hj_rZ dX12_isStandingNow_9 rfl rfl (Nat.le_refl _)
theorem cX12_isStandingNowk {a0 : Nat} {a1 : Int32} {σ : Sto} {r : Int32 × Sto} (h : fX12_isStandingNow a0 a1 σ = some r) : ∃ fs, hs_o σ 12 a0 = some fs := (ck_of h).1
def fX12_pushed_b93 (x0 : Nat) (x1 : Int32) (σ : Sto) : Option (Int32 × Sto) := (if x1 = 0 then (cb (fX12_overNow x0 σ) fun r10 σ9 => (some (r10, σ9))) else (cb (fX12_tipsAt x0 σ) fun r8 σ7 => (if 0 ≤ r8 then (some ((0 : Int32), σ7)) else (some ((1 : Int32), σ7)))))
set_option maxHeartbeats 2000000 in
theorem sX12_pushed_b93 {G : GP} {n0 : Nat} : ∀ (x0 : Nat) (x1 : Int32) (σ : Sto), Sim G mX12_pushed 6 0 0 n0 jI 0 0 93 [(0, .ref x0), (1, .int x1)] [] σ (fX12_pushed_b93 x0 x1 σ) := by
  intro x0 x1 σ
  unfold fX12_pushed_b93
  refine hj_iload_n 1 dX12_pushed_93 rfl ?_
  refine hj_if_ne 104 dX12_pushed_94 (by decide) (fun _ => ?_) (fun _ => ?_)
  · refine hj_aload_n 0 dX12_pushed_104 rfl ?_
    refine hj_callV (ci := 12) (M' := mX12_tipsAt) (h' := 5) (As := []) mfX12_tipsAt mvX12_tipsAt ⟨_, _, rfl⟩ mlX12_361 dX12_pushed_105 (kX12_tipsAt G _ _) (fun _ hr => cX12_tipsAtk hr) ⟨Nat.le_of_ble_eq_true rfl, Nat.le_of_ble_eq_true rfl⟩ ⟨Nat.le_refl _, Nat.le_refl _⟩ rfl (Nat.le_of_ble_eq_true rfl) (fun r8 σ7 _ => ?_)
    refine hj_if_ge 115 dX12_pushed_108 (by decide) (fun _ => ?_) (fun _ => ?_)
    · refine hj_iconst (0 : Int32) dX12_pushed_115 (by decide) ?_
      exact hj_iret dX12_pushed_116 rfl rfl (Nat.le_refl _)
    · refine hj_iconst (1 : Int32) dX12_pushed_111 (by decide) ?_
      refine hj_goto 116 dX12_pushed_112 (by decide) ?_
      exact hj_iret dX12_pushed_116 rfl rfl (Nat.le_refl _)
  · refine hj_aload_n 0 dX12_pushed_97 rfl ?_
    refine hj_callV (ci := 12) (M' := mX12_overNow) (h' := 2) (As := []) mfX12_overNow mvX12_overNow ⟨_, _, rfl⟩ mlX12_364 dX12_pushed_98 (kX12_overNow G _ _) (fun _ hr => cX12_overNowk hr) ⟨Nat.le_of_ble_eq_true rfl, Nat.le_of_ble_eq_true rfl⟩ ⟨Nat.le_refl _, Nat.le_refl _⟩ rfl (Nat.le_of_ble_eq_true rfl) (fun r10 σ9 _ => ?_)
    refine hj_goto 116 dX12_pushed_101 (by decide) ?_
    exact hj_iret dX12_pushed_116 rfl rfl (Nat.le_refl _)
def fX12_pushed_b87 (K25 : Nat → Int32 → Int32 → Sto → Option (Int32 × Sto)) (x0 : Nat) (x1 : Int32) (x2 : Int32) (σ : Sto) : Option (Int32 × Sto) := (K25 x0 x1 (x2 + (-1 : Int32)) σ)
set_option maxHeartbeats 2000000 in
theorem sX12_pushed_b87 {G : GP} {n0 : Nat} {K25 : Nat → Int32 → Int32 → Sto → Option (Int32 × Sto)} (hK25 : ∀ (x0 : Nat) (x1 : Int32) (x2 : Int32) (σ : Sto), Sim G mX12_pushed 6 0 0 n0 jI 0 0 25 [(0, .ref x0), (1, .int x1), (2, .int x2)] [] σ (K25 x0 x1 x2 σ)) : ∀ (x0 : Nat) (x1 : Int32) (x2 : Int32) (σ : Sto), Sim G mX12_pushed 6 0 0 n0 jI 0 0 87 [(0, .ref x0), (1, .int x1), (2, .int x2)] [] σ (fX12_pushed_b87 K25 x0 x1 x2 σ) := by
  intro x0 x1 x2 σ
  unfold fX12_pushed_b87
  refine hj_iinc (lv' := [(0, .ref x0), (1, .int x1), (2, .int (x2 + (-1 : Int32)))]) 2 (-1 : Int32) dX12_pushed_87 rfl (by decide) (by decide) [1, 2, 0] rfl ?_
  refine hj_goto 25 dX12_pushed_90 (by decide) ?_
  refine hj_loc (lv' := [(0, .ref x0), (1, .int x1), (2, .int (x2 + (-1 : Int32)))]) [0, 1, 2] rfl ?_
  exact hK25 _ _ _ _
def fX12_pushed_b76 (K25 : Nat → Int32 → Int32 → Sto → Option (Int32 × Sto)) (x0 : Nat) (x1 : Int32) (x2 : Int32) (x4 : Int32) (σ : Sto) : Option (Int32 × Sto) := (if x4 = 0 then (cb (fX12_shifts x0 x2 ((-1 : Int32)) σ) fun _ σ1 => (fX12_pushed_b87 K25 x0 x1 x2 σ1)) else (fX12_pushed_b87 K25 x0 x1 x2 σ))
set_option maxHeartbeats 2000000 in
theorem sX12_pushed_b76 {G : GP} {n0 : Nat} {K25 : Nat → Int32 → Int32 → Sto → Option (Int32 × Sto)} (hK25 : ∀ (x0 : Nat) (x1 : Int32) (x2 : Int32) (σ : Sto), Sim G mX12_pushed 6 0 0 n0 jI 0 0 25 [(0, .ref x0), (1, .int x1), (2, .int x2)] [] σ (K25 x0 x1 x2 σ)) : ∀ (x0 : Nat) (x1 : Int32) (x2 : Int32) (x4 : Int32) (σ : Sto), Sim G mX12_pushed 6 0 0 n0 jI 0 0 76 [(0, .ref x0), (1, .int x1), (2, .int x2), (4, .int x4)] [] σ (fX12_pushed_b76 K25 x0 x1 x2 x4 σ) := by
  intro x0 x1 x2 x4 σ
  unfold fX12_pushed_b76
  refine hj_iload 3 dX12_pushed_76 rfl ?_
  refine hj_if_ne 87 dX12_pushed_78 (by decide) (fun _ => ?_) (fun _ => ?_)
  · refine hj_loc (lv' := [(0, .ref x0), (1, .int x1), (2, .int x2)]) [0, 1, 2] rfl ?_
    exact sX12_pushed_b87 hK25 _ _ _ _
  · refine hj_aload_n 0 dX12_pushed_81 rfl ?_
    refine hj_iload_n 2 dX12_pushed_82 rfl ?_
    refine hj_iconst (-1 : Int32) dX12_pushed_83 (by decide) ?_
    refine hj_callV (ci := 12) (M' := mX12_shifts) (h' := 1) (As := [.int x2, .int ((-1 : Int32))]) mfX12_shifts mvX12_shifts ⟨_, _, rfl⟩ mlX12_370 dX12_pushed_84 (kX12_shifts G _ _ _ _) (fun _ hr => cX12_shiftsk hr) ⟨Nat.le_of_ble_eq_true rfl, Nat.le_of_ble_eq_true rfl⟩ ⟨Nat.le_refl _, Nat.le_refl _⟩ rfl (Nat.le_of_ble_eq_true rfl) (fun _ σ1 _ => ?_)
    refine hj_loc (lv' := [(0, .ref x0), (1, .int x1), (2, .int x2)]) [0, 1, 2] rfl ?_
    exact sX12_pushed_b87 hK25 _ _ _ _
def fX12_pushed_b45 (K25 : Nat → Int32 → Int32 → Sto → Option (Int32 × Sto)) : Nat → Nat → Int32 → Int32 → Int32 → Int32 → Sto → Option (Int32 × Sto)
  | 0, _, _, _, _, _, _ => none
  | n + 1, x0, x1, x2, x3, x4, σ => (if x4 = 0 then (fX12_pushed_b76 K25 x0 x1 x2 x4 σ) else (if (200 : Int32) ≤ x3 then (fX12_pushed_b76 K25 x0 x1 x2 x4 σ) else (cb (fX12_shifts x0 x2 ((1 : Int32)) σ) fun _ σ2 => (cb (fX12_isStandingNow x0 x2 σ2) fun r4 σ3 => (fX12_pushed_b45 K25 n x0 x1 x2 (x3 + (1 : Int32)) r4 σ3)))))
set_option maxHeartbeats 2000000 in
theorem sX12_pushed_b45 {G : GP} {n0 : Nat} {K25 : Nat → Int32 → Int32 → Sto → Option (Int32 × Sto)} (hK25 : ∀ (x0 : Nat) (x1 : Int32) (x2 : Int32) (σ : Sto), Sim G mX12_pushed 6 0 0 n0 jI 0 0 25 [(0, .ref x0), (1, .int x1), (2, .int x2)] [] σ (K25 x0 x1 x2 σ)) : ∀ (n : Nat) (x0 : Nat) (x1 : Int32) (x2 : Int32) (x3 : Int32) (x4 : Int32) (σ : Sto), Sim G mX12_pushed 6 0 0 n0 jI 0 0 45 [(0, .ref x0), (1, .int x1), (2, .int x2), (3, .int x3), (4, .int x4)] [] σ (fX12_pushed_b45 K25 n x0 x1 x2 x3 x4 σ) := by
  intro n
  induction n with
  | zero => intros; rw [fX12_pushed_b45]; exact hj_none
  | succ n ih =>
    intro x0 x1 x2 x3 x4 σ
    rw [fX12_pushed_b45]
    refine hj_iload 4 dX12_pushed_45 rfl ?_
    refine hj_if_eq 76 dX12_pushed_47 (by decide) (fun _ => ?_) (fun _ => ?_)
    · refine hj_loc (lv' := [(0, .ref x0), (1, .int x1), (2, .int x2), (4, .int x4)]) [0, 1, 2, 4] rfl ?_
      exact sX12_pushed_b76 hK25 _ _ _ _ _
    · refine hj_iload_n 3 dX12_pushed_50 rfl ?_
      refine hj_sipush (200 : Int32) dX12_pushed_51 (by decide) ?_
      refine hj_icmp_ge 76 dX12_pushed_54 (by decide) (fun _ => ?_) (fun _ => ?_)
      · refine hj_loc (lv' := [(0, .ref x0), (1, .int x1), (2, .int x2), (4, .int x4)]) [0, 1, 2, 4] rfl ?_
        exact sX12_pushed_b76 hK25 _ _ _ _ _
      · refine hj_aload_n 0 dX12_pushed_57 rfl ?_
        refine hj_iload_n 2 dX12_pushed_58 rfl ?_
        refine hj_iconst (1 : Int32) dX12_pushed_59 (by decide) ?_
        refine hj_callV (ci := 12) (M' := mX12_shifts) (h' := 1) (As := [.int x2, .int ((1 : Int32))]) mfX12_shifts mvX12_shifts ⟨_, _, rfl⟩ mlX12_370 dX12_pushed_60 (kX12_shifts G _ _ _ _) (fun _ hr => cX12_shiftsk hr) ⟨Nat.le_of_ble_eq_true rfl, Nat.le_of_ble_eq_true rfl⟩ ⟨Nat.le_refl _, Nat.le_refl _⟩ rfl (Nat.le_of_ble_eq_true rfl) (fun _ σ2 _ => ?_)
        refine hj_iinc (lv' := [(0, .ref x0), (1, .int x1), (2, .int x2), (3, .int (x3 + (1 : Int32))), (4, .int x4)]) 3 (1 : Int32) dX12_pushed_63 rfl (by decide) (by decide) [1, 2, 3, 0, 4] rfl ?_
        refine hj_aload_n 0 dX12_pushed_66 rfl ?_
        refine hj_iload_n 2 dX12_pushed_67 rfl ?_
        refine hj_callV (ci := 12) (M' := mX12_isStandingNow) (h' := 5) (As := [.int x2]) mfX12_isStandingNow mvX12_isStandingNow ⟨_, _, rfl⟩ mlX12_377 dX12_pushed_68 (kX12_isStandingNow G _ _ _) (fun _ hr => cX12_isStandingNowk hr) ⟨Nat.le_of_ble_eq_true rfl, Nat.le_of_ble_eq_true rfl⟩ ⟨Nat.le_refl _, Nat.le_refl _⟩ rfl (Nat.le_of_ble_eq_true rfl) (fun r4 σ3 _ => ?_)
        refine hj_istore (lv' := [(0, .ref x0), (1, .int x1), (2, .int x2), (3, .int (x3 + (1 : Int32))), (4, .int r4)]) dX12_pushed_71 (by decide) [1, 2, 3, 4, 0] rfl ?_
        refine hj_goto 45 dX12_pushed_73 (by decide) ?_
        refine hj_loc (lv' := [(0, .ref x0), (1, .int x1), (2, .int x2), (3, .int (x3 + (1 : Int32))), (4, .int r4)]) [0, 1, 2, 3, 4] rfl ?_
        exact ih _ _ _ _ _ _
def fX12_pushed_b25 : Nat → Nat → Int32 → Int32 → Sto → Option (Int32 × Sto)
  | 0, _, _, _, _ => none
  | n + 1, x0, x1, x2, σ => (if x2 < 0 then (fX12_pushed_b93 x0 x1 σ) else (cb (fX12_isStandingNow x0 x2 σ) fun r6 σ5 => (if r6 = 0 then (fX12_pushed_b87 (fX12_pushed_b25 n) x0 x1 x2 σ5) else (fX12_pushed_b45 (fX12_pushed_b25 n) FU x0 x1 x2 ((0 : Int32)) ((1 : Int32)) σ5))))
set_option maxHeartbeats 2000000 in
theorem sX12_pushed_b25 {G : GP} {n0 : Nat} : ∀ (n : Nat) (x0 : Nat) (x1 : Int32) (x2 : Int32) (σ : Sto), Sim G mX12_pushed 6 0 0 n0 jI 0 0 25 [(0, .ref x0), (1, .int x1), (2, .int x2)] [] σ (fX12_pushed_b25 n x0 x1 x2 σ) := by
  intro n
  induction n with
  | zero => intros; rw [fX12_pushed_b25]; exact hj_none
  | succ n ih =>
    intro x0 x1 x2 σ
    rw [fX12_pushed_b25]
    refine hj_iload_n 2 dX12_pushed_25 rfl ?_
    refine hj_if_lt 93 dX12_pushed_26 (by decide) (fun _ => ?_) (fun _ => ?_)
    · refine hj_loc (lv' := [(0, .ref x0), (1, .int x1)]) [0, 1] rfl ?_
      exact sX12_pushed_b93 _ _ _
    · refine hj_aload_n 0 dX12_pushed_29 rfl ?_
      refine hj_iload_n 2 dX12_pushed_30 rfl ?_
      refine hj_callV (ci := 12) (M' := mX12_isStandingNow) (h' := 5) (As := [.int x2]) mfX12_isStandingNow mvX12_isStandingNow ⟨_, _, rfl⟩ mlX12_377 dX12_pushed_31 (kX12_isStandingNow G _ _ _) (fun _ hr => cX12_isStandingNowk hr) ⟨Nat.le_of_ble_eq_true rfl, Nat.le_of_ble_eq_true rfl⟩ ⟨Nat.le_refl _, Nat.le_refl _⟩ rfl (Nat.le_of_ble_eq_true rfl) (fun r6 σ5 _ => ?_)
      refine hj_if_ne 40 dX12_pushed_34 (by decide) (fun _ => ?_) (fun _ => ?_)
      · refine hj_iconst (0 : Int32) dX12_pushed_40 (by decide) ?_
        refine hj_istore_n (lv' := [(0, .ref x0), (1, .int x1), (2, .int x2), (3, .int (0 : Int32))]) dX12_pushed_41 (by decide) [1, 2, 3, 0] rfl ?_
        refine hj_iconst (1 : Int32) dX12_pushed_42 (by decide) ?_
        refine hj_istore (lv' := [(0, .ref x0), (1, .int x1), (2, .int x2), (3, .int (0 : Int32)), (4, .int (1 : Int32))]) dX12_pushed_43 (by decide) [1, 2, 3, 4, 0] rfl ?_
        refine hj_loc (lv' := [(0, .ref x0), (1, .int x1), (2, .int x2), (3, .int (0 : Int32)), (4, .int (1 : Int32))]) [0, 1, 2, 3, 4] rfl ?_
        exact sX12_pushed_b45 ih _ _ _ _ _ _ _
      · refine hj_goto 87 dX12_pushed_37 (by decide) ?_
        refine hj_loc (lv' := [(0, .ref x0), (1, .int x1), (2, .int x2)]) [0, 1, 2] rfl ?_
        exact sX12_pushed_b87 ih _ _ _ _
def fX12_pushed (a0 : Nat) (a1 : Int32) (σ : Sto) : Option (Int32 × Sto) := ck σ 12 a0 (cb (fX12_in a1 ((0 : Int32)) ((1 : Int32)) σ) fun r12 σ11 => (if r12 = 0 then (some ((-1 : Int32), σ11)) else (cb (fX12_copies a0 σ11) fun _ σ13 => ((gR σ13 12 a0 48).bind fun t14 => ((aI σ13 2 t14 ((18 : Int32))).bind fun t15 => (lt ((t15 - ((1 : Int32)))) fun v16 => (fX12_pushed_b25 FU a0 a1 v16 σ13)))))))
set_option maxHeartbeats 2000000 in
theorem kX12_pushed (G : GP) (a0 : Nat) (a1 : Int32) (σ : Sto) : Me G mX12_pushed 6 0 0 jI [.ref a0, .int a1] σ (fX12_pushed a0 a1 σ) := by
  refine hs_me (lv := [(0, .ref a0), (1, .int a1)]) (plainFor_of_name (by decide +kernel)) (Nat.le_of_ble_eq_true rfl) rfl ?_
  unfold fX12_pushed
  refine hj_ck ?_
  refine hj_iload_n 1 dX12_pushed_0 rfl ?_
  refine hj_iconst (0 : Int32) dX12_pushed_1 (by decide) ?_
  refine hj_iconst (1 : Int32) dX12_pushed_2 (by decide) ?_
  refine hj_callS (M' := mX12_in) (h' := 1) (As := [.int a1, .int ((0 : Int32)), .int ((1 : Int32))]) mfX12_in msX12_in mlX12_298 dX12_pushed_3 (kX12_in G _ _ _ _) ⟨Nat.le_of_ble_eq_true rfl, Nat.le_of_ble_eq_true rfl⟩ ⟨Nat.le_refl _, Nat.le_refl _⟩ rfl (Nat.le_of_ble_eq_true rfl) (fun r12 σ11 _ => ?_)
  refine hj_if_ne 11 dX12_pushed_6 (by decide) (fun _ => ?_) (fun _ => ?_)
  · refine hj_aload_n 0 dX12_pushed_11 rfl ?_
    refine hj_callV (ci := 12) (M' := mX12_copies) (h' := 1) (As := []) mfX12_copies mvX12_copies ⟨_, _, rfl⟩ mlX12_346 dX12_pushed_12 (kX12_copies G _ _) (fun _ hr => cX12_copiesk hr) ⟨Nat.le_of_ble_eq_true rfl, Nat.le_of_ble_eq_true rfl⟩ ⟨Nat.le_refl _, Nat.le_refl _⟩ rfl (Nat.le_of_ble_eq_true rfl) (fun _ σ13 _ => ?_)
    refine hj_aload_n 0 dX12_pushed_15 rfl ?_
    refine hj_getR flX12_110 dX12_pushed_16 (fun t14 _ => ?_)
    refine hj_bipush (18 : Int32) dX12_pushed_19 (by decide) ?_
    refine hj_iald dX12_pushed_21 (fun t15 _ => ?_)
    refine hj_iconst (1 : Int32) dX12_pushed_22 (by decide) ?_
    refine hj_isub dX12_pushed_23 ?_
    refine hj_ltI (fun v16 _ => ?_)
    refine hj_istore_n (lv' := [(0, .ref a0), (1, .int a1), (2, .int v16)]) dX12_pushed_24 (by decide) [1, 2, 0] rfl ?_
    refine hj_loc (lv' := [(0, .ref a0), (1, .int a1), (2, .int v16)]) [0, 1, 2] rfl ?_
    exact sX12_pushed_b25 _ _ _ _ _
  · refine hj_iconst (-1 : Int32) dX12_pushed_9 (by decide) ?_
    exact hj_iret dX12_pushed_10 rfl rfl (Nat.le_refl _)
theorem cX12_pushedk {a0 : Nat} {a1 : Int32} {σ : Sto} {r : Int32 × Sto} (h : fX12_pushed a0 a1 σ = some r) : ∃ fs, hs_o σ 12 a0 = some fs := (ck_of h).1
def fX12_takesLevels_b100 (K8 : Nat → Int32 → Int32 → Int32 → Sto → Option (Unit × Sto)) (x0 : Nat) (x1 : Int32) (x2 : Int32) (x3 : Int32) (σ : Sto) : Option (Unit × Sto) := (K8 x0 x1 x2 (x3 + (1 : Int32)) σ)
set_option maxHeartbeats 2000000 in
theorem sX12_takesLevels_b100 {G : GP} {n0 : Nat} {K8 : Nat → Int32 → Int32 → Int32 → Sto → Option (Unit × Sto)} (hK8 : ∀ (x0 : Nat) (x1 : Int32) (x2 : Int32) (x3 : Int32) (σ : Sto), Sim G mX12_takesLevels 2 0 0 n0 jV 0 0 8 [(0, .ref x0), (1, .int x1), (2, .int x2), (3, .int x3)] [] σ (K8 x0 x1 x2 x3 σ)) : ∀ (x0 : Nat) (x1 : Int32) (x2 : Int32) (x3 : Int32) (σ : Sto), Sim G mX12_takesLevels 2 0 0 n0 jV 0 0 100 [(0, .ref x0), (1, .int x1), (2, .int x2), (3, .int x3)] [] σ (fX12_takesLevels_b100 K8 x0 x1 x2 x3 σ) := by
  intro x0 x1 x2 x3 σ
  unfold fX12_takesLevels_b100
  refine hj_iinc (lv' := [(0, .ref x0), (1, .int x1), (2, .int x2), (3, .int (x3 + (1 : Int32)))]) 3 (1 : Int32) dX12_takesLevels_100 rfl (by decide) (by decide) [1, 2, 3, 0] rfl ?_
  refine hj_goto 8 dX12_takesLevels_103 (by decide) ?_
  refine hj_loc (lv' := [(0, .ref x0), (1, .int x1), (2, .int x2), (3, .int (x3 + (1 : Int32)))]) [0, 1, 2, 3] rfl ?_
  exact hK8 _ _ _ _ _
def fX12_takesLevels_b96 (K8 : Nat → Int32 → Int32 → Int32 → Sto → Option (Unit × Sto)) (x0 : Nat) (x1 : Int32) (x2 : Int32) (x3 : Int32) (y0 : Nat) (y1 : Int32) (y2 : Int32) (σ : Sto) : Option (Unit × Sto) := ((sI σ 2 y0 y1 y2).bind fun σ16 => (fX12_takesLevels_b100 K8 x0 x1 (x2 + (1 : Int32)) x3 σ16))
set_option maxHeartbeats 2000000 in
theorem sX12_takesLevels_b96 {G : GP} {n0 : Nat} {K8 : Nat → Int32 → Int32 → Int32 → Sto → Option (Unit × Sto)} (hK8 : ∀ (x0 : Nat) (x1 : Int32) (x2 : Int32) (x3 : Int32) (σ : Sto), Sim G mX12_takesLevels 2 0 0 n0 jV 0 0 8 [(0, .ref x0), (1, .int x1), (2, .int x2), (3, .int x3)] [] σ (K8 x0 x1 x2 x3 σ)) : ∀ (x0 : Nat) (x1 : Int32) (x2 : Int32) (x3 : Int32) (y0 : Nat) (y1 : Int32) (y2 : Int32) (σ : Sto), Sim G mX12_takesLevels 2 0 0 n0 jV 0 0 96 [(0, .ref x0), (1, .int x1), (2, .int x2), (3, .int x3)] [.int y2, .int y1, .ref y0] σ (fX12_takesLevels_b96 K8 x0 x1 x2 x3 y0 y1 y2 σ) := by
  intro x0 x1 x2 x3 y0 y1 y2 σ
  unfold fX12_takesLevels_b96
  refine hj_iast dX12_takesLevels_96 (fun σ16 _ => ?_)
  refine hj_iinc (lv' := [(0, .ref x0), (1, .int x1), (2, .int (x2 + (1 : Int32))), (3, .int x3)]) 2 (1 : Int32) dX12_takesLevels_97 rfl (by decide) (by decide) [1, 2, 0, 3] rfl ?_
  refine hj_loc (lv' := [(0, .ref x0), (1, .int x1), (2, .int (x2 + (1 : Int32))), (3, .int x3)]) [0, 1, 2, 3] rfl ?_
  exact sX12_takesLevels_b100 hK8 _ _ _ _ _
def fX12_takesLevels_b95 (K8 : Nat → Int32 → Int32 → Int32 → Sto → Option (Unit × Sto)) (x0 : Nat) (x1 : Int32) (x2 : Int32) (x3 : Int32) (y0 : Nat) (y1 : Int32) (σ : Sto) : Option (Unit × Sto) := (fX12_takesLevels_b96 K8 x0 x1 x2 x3 y0 y1 ((0 : Int32)) σ)
set_option maxHeartbeats 2000000 in
theorem sX12_takesLevels_b95 {G : GP} {n0 : Nat} {K8 : Nat → Int32 → Int32 → Int32 → Sto → Option (Unit × Sto)} (hK8 : ∀ (x0 : Nat) (x1 : Int32) (x2 : Int32) (x3 : Int32) (σ : Sto), Sim G mX12_takesLevels 2 0 0 n0 jV 0 0 8 [(0, .ref x0), (1, .int x1), (2, .int x2), (3, .int x3)] [] σ (K8 x0 x1 x2 x3 σ)) : ∀ (x0 : Nat) (x1 : Int32) (x2 : Int32) (x3 : Int32) (y0 : Nat) (y1 : Int32) (σ : Sto), Sim G mX12_takesLevels 2 0 0 n0 jV 0 0 95 [(0, .ref x0), (1, .int x1), (2, .int x2), (3, .int x3)] [.int y1, .ref y0] σ (fX12_takesLevels_b95 K8 x0 x1 x2 x3 y0 y1 σ) := by
  intro x0 x1 x2 x3 y0 y1 σ
  unfold fX12_takesLevels_b95
  refine hj_iconst (0 : Int32) dX12_takesLevels_95 (by decide) ?_
  refine hj_loc (lv' := [(0, .ref x0), (1, .int x1), (2, .int x2), (3, .int x3)]) [0, 1, 2, 3] rfl ?_
  exact sX12_takesLevels_b96 hK8 _ _ _ _ _ _ _ _
def fX12_takesLevels_b8 : Nat → Nat → Int32 → Int32 → Int32 → Sto → Option (Unit × Sto)
  | 0, _, _, _, _, _ => none
  | n + 1, x0, x1, x2, x3, σ => ((gR σ 12 x0 47).bind fun t1 => ((aI σ 2 t1 ((18 : Int32))).bind fun t2 => (if t2 ≤ x3 then ((gR σ 12 x0 48).bind fun t3 => ((sI σ 2 t3 ((18 : Int32)) x2).bind fun σ4 => (some ((), σ4)))) else (if (((x1 >>> (x3 &&& 31))) &&& ((1 : Int32))) = 0 then (fX12_takesLevels_b100 (fX12_takesLevels_b8 n) x0 x1 x2 x3 σ) else ((gR σ 12 x0 48).bind fun t5 => ((gR σ 12 x0 47).bind fun t6 => ((aI σ 2 t6 x3).bind fun t7 => ((sI σ 2 t5 x2 t7).bind fun σ8 => ((gR σ8 12 x0 48).bind fun t9 => ((gR σ8 12 x0 47).bind fun t10 => ((aI σ8 2 t10 ((((6 : Int32)) + x3))).bind fun t11 => ((sI σ8 2 t9 ((((6 : Int32)) + x2)) t11).bind fun σ12 => ((gR σ12 12 x0 48).bind fun t13 => (if x3 ≤ 0 then (fX12_takesLevels_b95 (fX12_takesLevels_b8 n) x0 x1 x2 x3 t13 ((((12 : Int32)) + x2)) σ12) else (if (((x1 >>> (((x3 - ((1 : Int32)))) &&& 31))) &&& ((1 : Int32))) = (1 : Int32) then ((gR σ12 12 x0 47).bind fun t14 => ((aI σ12 2 t14 ((((12 : Int32)) + x3))).bind fun t15 => (fX12_takesLevels_b96 (fX12_takesLevels_b8 n) x0 x1 x2 x3 t13 ((((12 : Int32)) + x2)) t15 σ12))) else (fX12_takesLevels_b95 (fX12_takesLevels_b8 n) x0 x1 x2 x3 t13 ((((12 : Int32)) + x2)) σ12))))))))))))))))
set_option maxHeartbeats 2000000 in
theorem sX12_takesLevels_b8 {G : GP} {n0 : Nat} : ∀ (n : Nat) (x0 : Nat) (x1 : Int32) (x2 : Int32) (x3 : Int32) (σ : Sto), Sim G mX12_takesLevels 2 0 0 n0 jV 0 0 8 [(0, .ref x0), (1, .int x1), (2, .int x2), (3, .int x3)] [] σ (fX12_takesLevels_b8 n x0 x1 x2 x3 σ) := by
  intro n
  induction n with
  | zero => intros; rw [fX12_takesLevels_b8]; exact hj_none
  | succ n ih =>
    intro x0 x1 x2 x3 σ
    rw [fX12_takesLevels_b8]
    refine hj_iload_n 3 dX12_takesLevels_8 rfl ?_
    refine hj_aload_n 0 dX12_takesLevels_9 rfl ?_
    refine hj_getR flX12_107 dX12_takesLevels_10 (fun t1 _ => ?_)
    refine hj_bipush (18 : Int32) dX12_takesLevels_13 (by decide) ?_
    refine hj_iald dX12_takesLevels_15 (fun t2 _ => ?_)
    refine hj_icmp_ge 106 dX12_takesLevels_16 (by decide) (fun _ => ?_) (fun _ => ?_)
    · refine hj_aload_n 0 dX12_takesLevels_106 rfl ?_
      refine hj_getR flX12_110 dX12_takesLevels_107 (fun t3 _ => ?_)
      refine hj_bipush (18 : Int32) dX12_takesLevels_110 (by decide) ?_
      refine hj_iload_n 2 dX12_takesLevels_112 rfl ?_
      refine hj_iast dX12_takesLevels_113 (fun σ4 _ => ?_)
      exact hj_vret dX12_takesLevels_114 rfl rfl (Nat.le_refl _)
    · refine hj_iload_n 1 dX12_takesLevels_19 rfl ?_
      refine hj_iload_n 3 dX12_takesLevels_20 rfl ?_
      refine hj_ishr dX12_takesLevels_21 ?_
      refine hj_iconst (1 : Int32) dX12_takesLevels_22 (by decide) ?_
      refine hj_iand dX12_takesLevels_23 ?_
      refine hj_if_ne 30 dX12_takesLevels_24 (by decide) (fun _ => ?_) (fun _ => ?_)
      · refine hj_aload_n 0 dX12_takesLevels_30 rfl ?_
        refine hj_getR flX12_110 dX12_takesLevels_31 (fun t5 _ => ?_)
        refine hj_iload_n 2 dX12_takesLevels_34 rfl ?_
        refine hj_aload_n 0 dX12_takesLevels_35 rfl ?_
        refine hj_getR flX12_107 dX12_takesLevels_36 (fun t6 _ => ?_)
        refine hj_iload_n 3 dX12_takesLevels_39 rfl ?_
        refine hj_iald dX12_takesLevels_40 (fun t7 _ => ?_)
        refine hj_iast dX12_takesLevels_41 (fun σ8 _ => ?_)
        refine hj_aload_n 0 dX12_takesLevels_42 rfl ?_
        refine hj_getR flX12_110 dX12_takesLevels_43 (fun t9 _ => ?_)
        refine hj_bipush (6 : Int32) dX12_takesLevels_46 (by decide) ?_
        refine hj_iload_n 2 dX12_takesLevels_48 rfl ?_
        refine hj_iadd dX12_takesLevels_49 ?_
        refine hj_aload_n 0 dX12_takesLevels_50 rfl ?_
        refine hj_getR flX12_107 dX12_takesLevels_51 (fun t10 _ => ?_)
        refine hj_bipush (6 : Int32) dX12_takesLevels_54 (by decide) ?_
        refine hj_iload_n 3 dX12_takesLevels_56 rfl ?_
        refine hj_iadd dX12_takesLevels_57 ?_
        refine hj_iald dX12_takesLevels_58 (fun t11 _ => ?_)
        refine hj_iast dX12_takesLevels_59 (fun σ12 _ => ?_)
        refine hj_aload_n 0 dX12_takesLevels_60 rfl ?_
        refine hj_getR flX12_110 dX12_takesLevels_61 (fun t13 _ => ?_)
        refine hj_bipush (12 : Int32) dX12_takesLevels_64 (by decide) ?_
        refine hj_iload_n 2 dX12_takesLevels_66 rfl ?_
        refine hj_iadd dX12_takesLevels_67 ?_
        refine hj_iload_n 3 dX12_takesLevels_68 rfl ?_
        refine hj_if_le 95 dX12_takesLevels_69 (by decide) (fun _ => ?_) (fun _ => ?_)
        · refine hj_loc (lv' := [(0, .ref x0), (1, .int x1), (2, .int x2), (3, .int x3)]) [0, 1, 2, 3] rfl ?_
          exact sX12_takesLevels_b95 ih _ _ _ _ _ _ _
        · refine hj_iload_n 1 dX12_takesLevels_72 rfl ?_
          refine hj_iload_n 3 dX12_takesLevels_73 rfl ?_
          refine hj_iconst (1 : Int32) dX12_takesLevels_74 (by decide) ?_
          refine hj_isub dX12_takesLevels_75 ?_
          refine hj_ishr dX12_takesLevels_76 ?_
          refine hj_iconst (1 : Int32) dX12_takesLevels_77 (by decide) ?_
          refine hj_iand dX12_takesLevels_78 ?_
          refine hj_iconst (1 : Int32) dX12_takesLevels_79 (by decide) ?_
          refine hj_icmp_ne 95 dX12_takesLevels_80 (by decide) (fun _ => ?_) (fun _ => ?_)
          · refine hj_loc (lv' := [(0, .ref x0), (1, .int x1), (2, .int x2), (3, .int x3)]) [0, 1, 2, 3] rfl ?_
            exact sX12_takesLevels_b95 ih _ _ _ _ _ _ _
          · refine hj_aload_n 0 dX12_takesLevels_83 rfl ?_
            refine hj_getR flX12_107 dX12_takesLevels_84 (fun t14 _ => ?_)
            refine hj_bipush (12 : Int32) dX12_takesLevels_87 (by decide) ?_
            refine hj_iload_n 3 dX12_takesLevels_89 rfl ?_
            refine hj_iadd dX12_takesLevels_90 ?_
            refine hj_iald dX12_takesLevels_91 (fun t15 _ => ?_)
            refine hj_goto 96 dX12_takesLevels_92 (by decide) ?_
            refine hj_loc (lv' := [(0, .ref x0), (1, .int x1), (2, .int x2), (3, .int x3)]) [0, 1, 2, 3] rfl ?_
            exact sX12_takesLevels_b96 ih _ _ _ _ _ _ _ _
      · refine hj_goto 100 dX12_takesLevels_27 (by decide) ?_
        refine hj_loc (lv' := [(0, .ref x0), (1, .int x1), (2, .int x2), (3, .int x3)]) [0, 1, 2, 3] rfl ?_
        exact sX12_takesLevels_b100 ih _ _ _ _ _
def fX12_takesLevels (a0 : Nat) (a1 : Int32) (σ : Sto) : Option (Unit × Sto) := ck σ 12 a0 (cb (fX12_copies a0 σ) fun _ σ17 => (fX12_takesLevels_b8 FU a0 a1 ((0 : Int32)) ((0 : Int32)) σ17))
set_option maxHeartbeats 2000000 in
theorem kX12_takesLevels (G : GP) (a0 : Nat) (a1 : Int32) (σ : Sto) : Me G mX12_takesLevels 2 0 0 jV [.ref a0, .int a1] σ (fX12_takesLevels a0 a1 σ) := by
  refine hs_me (lv := [(0, .ref a0), (1, .int a1)]) (plainFor_of_name (by decide +kernel)) (Nat.le_of_ble_eq_true rfl) rfl ?_
  unfold fX12_takesLevels
  refine hj_ck ?_
  refine hj_aload_n 0 dX12_takesLevels_0 rfl ?_
  refine hj_callV (ci := 12) (M' := mX12_copies) (h' := 1) (As := []) mfX12_copies mvX12_copies ⟨_, _, rfl⟩ mlX12_346 dX12_takesLevels_1 (kX12_copies G _ _) (fun _ hr => cX12_copiesk hr) ⟨Nat.le_of_ble_eq_true rfl, Nat.le_of_ble_eq_true rfl⟩ ⟨Nat.le_refl _, Nat.le_refl _⟩ rfl (Nat.le_of_ble_eq_true rfl) (fun _ σ17 _ => ?_)
  refine hj_iconst (0 : Int32) dX12_takesLevels_4 (by decide) ?_
  refine hj_istore_n (lv' := [(0, .ref a0), (1, .int a1), (2, .int (0 : Int32))]) dX12_takesLevels_5 (by decide) [1, 2, 0] rfl ?_
  refine hj_iconst (0 : Int32) dX12_takesLevels_6 (by decide) ?_
  refine hj_istore_n (lv' := [(0, .ref a0), (1, .int a1), (2, .int (0 : Int32)), (3, .int (0 : Int32))]) dX12_takesLevels_7 (by decide) [1, 2, 3, 0] rfl ?_
  refine hj_loc (lv' := [(0, .ref a0), (1, .int a1), (2, .int (0 : Int32)), (3, .int (0 : Int32))]) [0, 1, 2, 3] rfl ?_
  exact sX12_takesLevels_b8 _ _ _ _ _ _
theorem cX12_takesLevelsk {a0 : Nat} {a1 : Int32} {σ : Sto} {r : Unit × Sto} (h : fX12_takesLevels a0 a1 σ = some r) : ∃ fs, hs_o σ 12 a0 = some fs := (ck_of h).1
def fX12_takings_b95 (K19 : Nat → Int32 → Int32 → Sto → Option (Int32 × Sto)) (x0 : Nat) (x1 : Int32) (x2 : Int32) (σ : Sto) : Option (Int32 × Sto) := (K19 x0 x1 (x2 + (1 : Int32)) σ)
set_option maxHeartbeats 2000000 in
theorem sX12_takings_b95 {G : GP} {n0 : Nat} {K19 : Nat → Int32 → Int32 → Sto → Option (Int32 × Sto)} (hK19 : ∀ (x0 : Nat) (x1 : Int32) (x2 : Int32) (σ : Sto), Sim G mX12_takings 6 0 0 n0 jI 0 0 19 [(0, .ref x0), (1, .int x1), (2, .int x2)] [] σ (K19 x0 x1 x2 σ)) : ∀ (x0 : Nat) (x1 : Int32) (x2 : Int32) (σ : Sto), Sim G mX12_takings 6 0 0 n0 jI 0 0 95 [(0, .ref x0), (1, .int x1), (2, .int x2)] [] σ (fX12_takings_b95 K19 x0 x1 x2 σ) := by
  intro x0 x1 x2 σ
  unfold fX12_takings_b95
  refine hj_iinc (lv' := [(0, .ref x0), (1, .int x1), (2, .int (x2 + (1 : Int32)))]) 2 (1 : Int32) dX12_takings_95 rfl (by decide) (by decide) [1, 2, 0] rfl ?_
  refine hj_goto 19 dX12_takings_98 (by decide) ?_
  refine hj_loc (lv' := [(0, .ref x0), (1, .int x1), (2, .int (x2 + (1 : Int32)))]) [0, 1, 2] rfl ?_
  exact hK19 _ _ _ _
def fX12_takings_b89 (K19 : Nat → Int32 → Int32 → Sto → Option (Int32 × Sto)) (K48 : Nat → Int32 → Int32 → Int32 → Sto → Option (Int32 × Sto)) (x0 : Nat) (x1 : Int32) (x2 : Int32) (x3 : Int32) (σ : Sto) : Option (Int32 × Sto) := (K48 x0 x1 x2 (x3 + (1 : Int32)) σ)
set_option maxHeartbeats 2000000 in
theorem sX12_takings_b89 {G : GP} {n0 : Nat} {K19 : Nat → Int32 → Int32 → Sto → Option (Int32 × Sto)} (hK19 : ∀ (x0 : Nat) (x1 : Int32) (x2 : Int32) (σ : Sto), Sim G mX12_takings 6 0 0 n0 jI 0 0 19 [(0, .ref x0), (1, .int x1), (2, .int x2)] [] σ (K19 x0 x1 x2 σ)) {K48 : Nat → Int32 → Int32 → Int32 → Sto → Option (Int32 × Sto)} (hK48 : ∀ (x0 : Nat) (x1 : Int32) (x2 : Int32) (x3 : Int32) (σ : Sto), Sim G mX12_takings 6 0 0 n0 jI 0 0 48 [(0, .ref x0), (1, .int x1), (2, .int x2), (3, .int x3)] [] σ (K48 x0 x1 x2 x3 σ)) : ∀ (x0 : Nat) (x1 : Int32) (x2 : Int32) (x3 : Int32) (σ : Sto), Sim G mX12_takings 6 0 0 n0 jI 0 0 89 [(0, .ref x0), (1, .int x1), (2, .int x2), (3, .int x3)] [] σ (fX12_takings_b89 K19 K48 x0 x1 x2 x3 σ) := by
  intro x0 x1 x2 x3 σ
  unfold fX12_takings_b89
  refine hj_iinc (lv' := [(0, .ref x0), (1, .int x1), (2, .int x2), (3, .int (x3 + (1 : Int32)))]) 3 (1 : Int32) dX12_takings_89 rfl (by decide) (by decide) [1, 2, 3, 0] rfl ?_
  refine hj_goto 48 dX12_takings_92 (by decide) ?_
  refine hj_loc (lv' := [(0, .ref x0), (1, .int x1), (2, .int x2), (3, .int (x3 + (1 : Int32)))]) [0, 1, 2, 3] rfl ?_
  exact hK48 _ _ _ _ _
def fX12_takings_b48 (K19 : Nat → Int32 → Int32 → Sto → Option (Int32 × Sto)) : Nat → Nat → Int32 → Int32 → Int32 → Sto → Option (Int32 × Sto)
  | 0, _, _, _, _, _ => none
  | n + 1, x0, x1, x2, x3, σ => ((gR σ 12 x0 47).bind fun t1 => ((aI σ 2 t1 ((18 : Int32))).bind fun t2 => (if t2 ≤ x3 then (fX12_takings_b95 K19 x0 x1 x2 σ) else (if (((x2 >>> (x3 &&& 31))) &&& ((1 : Int32))) = (1 : Int32) then ((gR σ 12 x0 57).bind fun t3 => ((aI σ 2 t3 x2).bind fun t4 => ((gR σ 12 x0 57).bind fun t5 => ((aI σ 2 t5 ((x2 &&& ((((((1 : Int32)) <<< (x3 &&& 31))) ^^^ ((-1 : Int32))))))).bind fun t6 => ((sI σ 2 t3 x2 ((t4 + t6))).bind fun σ7 => (fX12_takings_b89 K19 (fX12_takings_b48 K19 n) x0 x1 x2 x3 σ7)))))) else (fX12_takings_b89 K19 (fX12_takings_b48 K19 n) x0 x1 x2 x3 σ)))))
set_option maxHeartbeats 2000000 in
theorem sX12_takings_b48 {G : GP} {n0 : Nat} {K19 : Nat → Int32 → Int32 → Sto → Option (Int32 × Sto)} (hK19 : ∀ (x0 : Nat) (x1 : Int32) (x2 : Int32) (σ : Sto), Sim G mX12_takings 6 0 0 n0 jI 0 0 19 [(0, .ref x0), (1, .int x1), (2, .int x2)] [] σ (K19 x0 x1 x2 σ)) : ∀ (n : Nat) (x0 : Nat) (x1 : Int32) (x2 : Int32) (x3 : Int32) (σ : Sto), Sim G mX12_takings 6 0 0 n0 jI 0 0 48 [(0, .ref x0), (1, .int x1), (2, .int x2), (3, .int x3)] [] σ (fX12_takings_b48 K19 n x0 x1 x2 x3 σ) := by
  intro n
  induction n with
  | zero => intros; rw [fX12_takings_b48]; exact hj_none
  | succ n ih =>
    intro x0 x1 x2 x3 σ
    rw [fX12_takings_b48]
    refine hj_iload_n 3 dX12_takings_48 rfl ?_
    refine hj_aload_n 0 dX12_takings_49 rfl ?_
    refine hj_getR flX12_107 dX12_takings_50 (fun t1 _ => ?_)
    refine hj_bipush (18 : Int32) dX12_takings_53 (by decide) ?_
    refine hj_iald dX12_takings_55 (fun t2 _ => ?_)
    refine hj_icmp_ge 95 dX12_takings_56 (by decide) (fun _ => ?_) (fun _ => ?_)
    · refine hj_loc (lv' := [(0, .ref x0), (1, .int x1), (2, .int x2)]) [0, 1, 2] rfl ?_
      exact sX12_takings_b95 hK19 _ _ _ _
    · refine hj_iload_n 2 dX12_takings_59 rfl ?_
      refine hj_iload_n 3 dX12_takings_60 rfl ?_
      refine hj_ishr dX12_takings_61 ?_
      refine hj_iconst (1 : Int32) dX12_takings_62 (by decide) ?_
      refine hj_iand dX12_takings_63 ?_
      refine hj_iconst (1 : Int32) dX12_takings_64 (by decide) ?_
      refine hj_icmp_ne 89 dX12_takings_65 (by decide) (fun _ => ?_) (fun _ => ?_)
      · refine hj_loc (lv' := [(0, .ref x0), (1, .int x1), (2, .int x2), (3, .int x3)]) [0, 1, 2, 3] rfl ?_
        exact sX12_takings_b89 hK19 ih _ _ _ _ _
      · refine hj_aload_n 0 dX12_takings_68 rfl ?_
        refine hj_getR flX12_125 dX12_takings_69 (fun t3 _ => ?_)
        refine hj_iload_n 2 dX12_takings_72 rfl ?_
        refine hj_dup2 dX12_takings_73 rfl rfl ?_
        refine hj_iald dX12_takings_74 (fun t4 _ => ?_)
        refine hj_aload_n 0 dX12_takings_75 rfl ?_
        refine hj_getR flX12_125 dX12_takings_76 (fun t5 _ => ?_)
        refine hj_iload_n 2 dX12_takings_79 rfl ?_
        refine hj_iconst (1 : Int32) dX12_takings_80 (by decide) ?_
        refine hj_iload_n 3 dX12_takings_81 rfl ?_
        refine hj_ishl dX12_takings_82 ?_
        refine hj_iconst (-1 : Int32) dX12_takings_83 (by decide) ?_
        refine hj_ixor dX12_takings_84 ?_
        refine hj_iand dX12_takings_85 ?_
        refine hj_iald dX12_takings_86 (fun t6 _ => ?_)
        refine hj_iadd dX12_takings_87 ?_
        refine hj_iast dX12_takings_88 (fun σ7 _ => ?_)
        refine hj_loc (lv' := [(0, .ref x0), (1, .int x1), (2, .int x2), (3, .int x3)]) [0, 1, 2, 3] rfl ?_
        exact sX12_takings_b89 hK19 ih _ _ _ _ _
def fX12_takings_b19 : Nat → Nat → Int32 → Int32 → Sto → Option (Int32 × Sto)
  | 0, _, _, _, _ => none
  | n + 1, x0, x1, x2, σ => (if x1 ≤ x2 then ((gR σ 12 x0 57).bind fun t8 => ((aI σ 2 t8 ((x1 - ((1 : Int32))))).bind fun t9 => (some (t9, σ)))) else ((gR σ 12 x0 57).bind fun t10 => ((sI σ 2 t10 x2 ((0 : Int32))).bind fun σ11 => (cb (fX12_takesLevels x0 x2 σ11) fun _ σ12 => (cb (fX12_tipsAt x0 σ12) fun r14 σ13 => (if r14 < 0 then (fX12_takings_b48 (fX12_takings_b19 n) FU x0 x1 x2 ((0 : Int32)) σ13) else (fX12_takings_b95 (fX12_takings_b19 n) x0 x1 x2 σ13)))))))
set_option maxHeartbeats 2000000 in
theorem sX12_takings_b19 {G : GP} {n0 : Nat} : ∀ (n : Nat) (x0 : Nat) (x1 : Int32) (x2 : Int32) (σ : Sto), Sim G mX12_takings 6 0 0 n0 jI 0 0 19 [(0, .ref x0), (1, .int x1), (2, .int x2)] [] σ (fX12_takings_b19 n x0 x1 x2 σ) := by
  intro n
  induction n with
  | zero => intros; rw [fX12_takings_b19]; exact hj_none
  | succ n ih =>
    intro x0 x1 x2 σ
    rw [fX12_takings_b19]
    refine hj_iload_n 2 dX12_takings_19 rfl ?_
    refine hj_iload_n 1 dX12_takings_20 rfl ?_
    refine hj_icmp_ge 101 dX12_takings_21 (by decide) (fun _ => ?_) (fun _ => ?_)
    · refine hj_aload_n 0 dX12_takings_101 rfl ?_
      refine hj_getR flX12_125 dX12_takings_102 (fun t8 _ => ?_)
      refine hj_iload_n 1 dX12_takings_105 rfl ?_
      refine hj_iconst (1 : Int32) dX12_takings_106 (by decide) ?_
      refine hj_isub dX12_takings_107 ?_
      refine hj_iald dX12_takings_108 (fun t9 _ => ?_)
      exact hj_iret dX12_takings_109 rfl rfl (Nat.le_refl _)
    · refine hj_aload_n 0 dX12_takings_24 rfl ?_
      refine hj_getR flX12_125 dX12_takings_25 (fun t10 _ => ?_)
      refine hj_iload_n 2 dX12_takings_28 rfl ?_
      refine hj_iconst (0 : Int32) dX12_takings_29 (by decide) ?_
      refine hj_iast dX12_takings_30 (fun σ11 _ => ?_)
      refine hj_aload_n 0 dX12_takings_31 rfl ?_
      refine hj_iload_n 2 dX12_takings_32 rfl ?_
      refine hj_callV (ci := 12) (M' := mX12_takesLevels) (h' := 2) (As := [.int x2]) mfX12_takesLevels mvX12_takesLevels ⟨_, _, rfl⟩ mlX12_380 dX12_takings_33 (kX12_takesLevels G _ _ _) (fun _ hr => cX12_takesLevelsk hr) ⟨Nat.le_of_ble_eq_true rfl, Nat.le_of_ble_eq_true rfl⟩ ⟨Nat.le_refl _, Nat.le_refl _⟩ rfl (Nat.le_of_ble_eq_true rfl) (fun _ σ12 _ => ?_)
      refine hj_aload_n 0 dX12_takings_36 rfl ?_
      refine hj_callV (ci := 12) (M' := mX12_tipsAt) (h' := 5) (As := []) mfX12_tipsAt mvX12_tipsAt ⟨_, _, rfl⟩ mlX12_361 dX12_takings_37 (kX12_tipsAt G _ _) (fun _ hr => cX12_tipsAtk hr) ⟨Nat.le_of_ble_eq_true rfl, Nat.le_of_ble_eq_true rfl⟩ ⟨Nat.le_refl _, Nat.le_refl _⟩ rfl (Nat.le_of_ble_eq_true rfl) (fun r14 σ13 _ => ?_)
      refine hj_if_lt 46 dX12_takings_40 (by decide) (fun _ => ?_) (fun _ => ?_)
      · refine hj_iconst (0 : Int32) dX12_takings_46 (by decide) ?_
        refine hj_istore_n (lv' := [(0, .ref x0), (1, .int x1), (2, .int x2), (3, .int (0 : Int32))]) dX12_takings_47 (by decide) [1, 2, 3, 0] rfl ?_
        refine hj_loc (lv' := [(0, .ref x0), (1, .int x1), (2, .int x2), (3, .int (0 : Int32))]) [0, 1, 2, 3] rfl ?_
        exact sX12_takings_b48 ih _ _ _ _ _ _
      · refine hj_goto 95 dX12_takings_43 (by decide) ?_
        refine hj_loc (lv' := [(0, .ref x0), (1, .int x1), (2, .int x2)]) [0, 1, 2] rfl ?_
        exact sX12_takings_b95 ih _ _ _ _
def fX12_takings (a0 : Nat) (σ : Sto) : Option (Int32 × Sto) := ck σ 12 a0 ((gR σ 12 a0 47).bind fun t15 => ((aI σ 2 t15 ((18 : Int32))).bind fun t16 => (lt ((((1 : Int32)) <<< (t16 &&& 31))) fun v17 => ((gR σ 12 a0 57).bind fun t18 => ((sI σ 2 t18 ((0 : Int32)) ((1 : Int32))).bind fun σ19 => (fX12_takings_b19 FU a0 v17 ((1 : Int32)) σ19))))))
set_option maxHeartbeats 2000000 in
theorem kX12_takings (G : GP) (a0 : Nat) (σ : Sto) : Me G mX12_takings 6 0 0 jI [.ref a0] σ (fX12_takings a0 σ) := by
  refine hs_me (lv := [(0, .ref a0)]) (plainFor_of_name (by decide +kernel)) (Nat.le_of_ble_eq_true rfl) rfl ?_
  unfold fX12_takings
  refine hj_ck ?_
  refine hj_iconst (1 : Int32) dX12_takings_0 (by decide) ?_
  refine hj_aload_n 0 dX12_takings_1 rfl ?_
  refine hj_getR flX12_107 dX12_takings_2 (fun t15 _ => ?_)
  refine hj_bipush (18 : Int32) dX12_takings_5 (by decide) ?_
  refine hj_iald dX12_takings_7 (fun t16 _ => ?_)
  refine hj_ishl dX12_takings_8 ?_
  refine hj_ltI (fun v17 _ => ?_)
  refine hj_istore_n (lv' := [(0, .ref a0), (1, .int v17)]) dX12_takings_9 (by decide) [1, 0] rfl ?_
  refine hj_aload_n 0 dX12_takings_10 rfl ?_
  refine hj_getR flX12_125 dX12_takings_11 (fun t18 _ => ?_)
  refine hj_iconst (0 : Int32) dX12_takings_14 (by decide) ?_
  refine hj_iconst (1 : Int32) dX12_takings_15 (by decide) ?_
  refine hj_iast dX12_takings_16 (fun σ19 _ => ?_)
  refine hj_iconst (1 : Int32) dX12_takings_17 (by decide) ?_
  refine hj_istore_n (lv' := [(0, .ref a0), (1, .int v17), (2, .int (1 : Int32))]) dX12_takings_18 (by decide) [1, 2, 0] rfl ?_
  refine hj_loc (lv' := [(0, .ref a0), (1, .int v17), (2, .int (1 : Int32))]) [0, 1, 2] rfl ?_
  exact sX12_takings_b19 _ _ _ _ _
theorem cX12_takingsk {a0 : Nat} {σ : Sto} {r : Int32 × Sto} (h : fX12_takings a0 σ = some r) : ∃ fs, hs_o σ 12 a0 = some fs := (ck_of h).1
def fX12_slides_b40 : Nat → Nat → Int32 → Int32 → Int32 → Sto → Option (Int32 × Sto)
  | 0, _, _, _, _, _ => none
  | n + 1, x0, x1, x3, x4, σ => (if (200 : Int32) ≤ x4 then (some ((x3 * x4), σ)) else (cb (fX12_shifts x0 x1 x3 σ) fun _ σ1 => (cb (fX12_tipsAt x0 σ1) fun r3 σ2 => (if r3 < 0 then (fX12_slides_b40 n x0 x1 x3 (x4 + (1 : Int32)) σ2) else (some ((x3 * x4), σ2))))))
set_option maxHeartbeats 2000000 in
theorem sX12_slides_b40 {G : GP} {n0 : Nat} : ∀ (n : Nat) (x0 : Nat) (x1 : Int32) (x3 : Int32) (x4 : Int32) (σ : Sto), Sim G mX12_slides 6 0 0 n0 jI 0 0 40 [(0, .ref x0), (1, .int x1), (3, .int x3), (4, .int x4)] [] σ (fX12_slides_b40 n x0 x1 x3 x4 σ) := by
  intro n
  induction n with
  | zero => intros; rw [fX12_slides_b40]; exact hj_none
  | succ n ih =>
    intro x0 x1 x3 x4 σ
    rw [fX12_slides_b40]
    refine hj_iload 3 dX12_slides_40 rfl ?_
    refine hj_sipush (200 : Int32) dX12_slides_42 (by decide) ?_
    refine hj_icmp_ge 72 dX12_slides_45 (by decide) (fun _ => ?_) (fun _ => ?_)
    · refine hj_iload_n 2 dX12_slides_72 rfl ?_
      refine hj_iload 3 dX12_slides_73 rfl ?_
      refine hj_imul dX12_slides_75 ?_
      exact hj_iret dX12_slides_76 rfl rfl (Nat.le_refl _)
    · refine hj_aload_n 0 dX12_slides_48 rfl ?_
      refine hj_iload_n 1 dX12_slides_49 rfl ?_
      refine hj_iload_n 2 dX12_slides_50 rfl ?_
      refine hj_callV (ci := 12) (M' := mX12_shifts) (h' := 1) (As := [.int x1, .int x3]) mfX12_shifts mvX12_shifts ⟨_, _, rfl⟩ mlX12_370 dX12_slides_51 (kX12_shifts G _ _ _ _) (fun _ hr => cX12_shiftsk hr) ⟨Nat.le_of_ble_eq_true rfl, Nat.le_of_ble_eq_true rfl⟩ ⟨Nat.le_refl _, Nat.le_refl _⟩ rfl (Nat.le_of_ble_eq_true rfl) (fun _ σ1 _ => ?_)
      refine hj_aload_n 0 dX12_slides_54 rfl ?_
      refine hj_callV (ci := 12) (M' := mX12_tipsAt) (h' := 5) (As := []) mfX12_tipsAt mvX12_tipsAt ⟨_, _, rfl⟩ mlX12_361 dX12_slides_55 (kX12_tipsAt G _ _) (fun _ hr => cX12_tipsAtk hr) ⟨Nat.le_of_ble_eq_true rfl, Nat.le_of_ble_eq_true rfl⟩ ⟨Nat.le_refl _, Nat.le_refl _⟩ rfl (Nat.le_of_ble_eq_true rfl) (fun r3 σ2 _ => ?_)
      refine hj_if_lt 66 dX12_slides_58 (by decide) (fun _ => ?_) (fun _ => ?_)
      · refine hj_iinc (lv' := [(0, .ref x0), (1, .int x1), (3, .int x3), (4, .int (x4 + (1 : Int32)))]) 3 (1 : Int32) dX12_slides_66 rfl (by decide) (by decide) [1, 2, 3, 0] rfl ?_
        refine hj_goto 40 dX12_slides_69 (by decide) ?_
        refine hj_loc (lv' := [(0, .ref x0), (1, .int x1), (3, .int x3), (4, .int (x4 + (1 : Int32)))]) [0, 1, 2, 3] rfl ?_
        exact ih _ _ _ _ _
      · refine hj_iload_n 2 dX12_slides_61 rfl ?_
        refine hj_iload 3 dX12_slides_62 rfl ?_
        refine hj_imul dX12_slides_64 ?_
        exact hj_iret dX12_slides_65 rfl rfl (Nat.le_refl _)
def fX12_slides_b36 (x0 : Nat) (x1 : Int32) (y0 : Int32) (σ : Sto) : Option (Int32 × Sto) := (fX12_slides_b40 FU x0 x1 y0 ((0 : Int32)) σ)
set_option maxHeartbeats 2000000 in
theorem sX12_slides_b36 {G : GP} {n0 : Nat} : ∀ (x0 : Nat) (x1 : Int32) (y0 : Int32) (σ : Sto), Sim G mX12_slides 6 0 0 n0 jI 0 0 36 [(0, .ref x0), (1, .int x1)] [.int y0] σ (fX12_slides_b36 x0 x1 y0 σ) := by
  intro x0 x1 y0 σ
  unfold fX12_slides_b36
  refine hj_istore_n (lv' := [(0, .ref x0), (1, .int x1), (3, .int y0)]) dX12_slides_36 (by decide) [1, 2, 0] rfl ?_
  refine hj_iconst (0 : Int32) dX12_slides_37 (by decide) ?_
  refine hj_istore (lv' := [(0, .ref x0), (1, .int x1), (3, .int y0), (4, .int (0 : Int32))]) dX12_slides_38 (by decide) [1, 2, 3, 0] rfl ?_
  refine hj_loc (lv' := [(0, .ref x0), (1, .int x1), (3, .int y0), (4, .int (0 : Int32))]) [0, 1, 2, 3] rfl ?_
  exact sX12_slides_b40 _ _ _ _ _ _
def fX12_slides (a0 : Nat) (a1 : Int32) (a2 : Int32) (σ : Sto) : Option (Int32 × Sto) := ck σ 12 a0 (cb (fX12_isLevel a0 a1 σ) fun r5 σ4 => (if r5 = 0 then (some ((-1000 : Int32), σ4)) else (cb (fX12_copies a0 σ4) fun _ σ6 => (cb (fX12_tipsAt a0 σ6) fun r8 σ7 => (if r8 < 0 then (if a2 = 0 then (fX12_slides_b36 a0 a1 ((-1 : Int32)) σ7) else (fX12_slides_b36 a0 a1 ((1 : Int32)) σ7)) else (some ((-2000 : Int32), σ7)))))))
set_option maxHeartbeats 2000000 in
theorem kX12_slides (G : GP) (a0 : Nat) (a1 : Int32) (a2 : Int32) (σ : Sto) : Me G mX12_slides 6 0 0 jI [.ref a0, .int a1, .int a2] σ (fX12_slides a0 a1 a2 σ) := by
  refine hs_me (lv := [(0, .ref a0), (1, .int a1), (2, .int a2)]) (plainFor_of_name (by decide +kernel)) (Nat.le_of_ble_eq_true rfl) rfl ?_
  unfold fX12_slides
  refine hj_ck ?_
  refine hj_aload_n 0 dX12_slides_0 rfl ?_
  refine hj_iload_n 1 dX12_slides_1 rfl ?_
  refine hj_callV (ci := 12) (M' := mX12_isLevel) (h' := 2) (As := [.int a1]) mfX12_isLevel mvX12_isLevel ⟨_, _, rfl⟩ mlX12_352 dX12_slides_2 (kX12_isLevel G _ _ _) (fun _ hr => cX12_isLevelk hr) ⟨Nat.le_of_ble_eq_true rfl, Nat.le_of_ble_eq_true rfl⟩ ⟨Nat.le_refl _, Nat.le_refl _⟩ rfl (Nat.le_of_ble_eq_true rfl) (fun r5 σ4 _ => ?_)
  refine hj_if_ne 12 dX12_slides_5 (by decide) (fun _ => ?_) (fun _ => ?_)
  · refine hj_aload_n 0 dX12_slides_12 rfl ?_
    refine hj_callV (ci := 12) (M' := mX12_copies) (h' := 1) (As := []) mfX12_copies mvX12_copies ⟨_, _, rfl⟩ mlX12_346 dX12_slides_13 (kX12_copies G _ _) (fun _ hr => cX12_copiesk hr) ⟨Nat.le_of_ble_eq_true rfl, Nat.le_of_ble_eq_true rfl⟩ ⟨Nat.le_refl _, Nat.le_refl _⟩ rfl (Nat.le_of_ble_eq_true rfl) (fun _ σ6 _ => ?_)
    refine hj_aload_n 0 dX12_slides_16 rfl ?_
    refine hj_callV (ci := 12) (M' := mX12_tipsAt) (h' := 5) (As := []) mfX12_tipsAt mvX12_tipsAt ⟨_, _, rfl⟩ mlX12_361 dX12_slides_17 (kX12_tipsAt G _ _) (fun _ hr => cX12_tipsAtk hr) ⟨Nat.le_of_ble_eq_true rfl, Nat.le_of_ble_eq_true rfl⟩ ⟨Nat.le_refl _, Nat.le_refl _⟩ rfl (Nat.le_of_ble_eq_true rfl) (fun r8 σ7 _ => ?_)
    refine hj_if_lt 27 dX12_slides_20 (by decide) (fun _ => ?_) (fun _ => ?_)
    · refine hj_iload_n 2 dX12_slides_27 rfl ?_
      refine hj_if_eq 35 dX12_slides_28 (by decide) (fun _ => ?_) (fun _ => ?_)
      · refine hj_iconst (-1 : Int32) dX12_slides_35 (by decide) ?_
        refine hj_loc (lv' := [(0, .ref a0), (1, .int a1)]) [0, 1] rfl ?_
        exact sX12_slides_b36 _ _ _ _
      · refine hj_iconst (1 : Int32) dX12_slides_31 (by decide) ?_
        refine hj_goto 36 dX12_slides_32 (by decide) ?_
        refine hj_loc (lv' := [(0, .ref a0), (1, .int a1)]) [0, 1] rfl ?_
        exact sX12_slides_b36 _ _ _ _
    · refine hj_sipush (-2000 : Int32) dX12_slides_23 (by decide) ?_
      exact hj_iret dX12_slides_26 rfl rfl (Nat.le_refl _)
  · refine hj_sipush (-1000 : Int32) dX12_slides_8 (by decide) ?_
    exact hj_iret dX12_slides_11 rfl rfl (Nat.le_refl _)
theorem cX12_slidesk {a0 : Nat} {a1 : Int32} {a2 : Int32} {σ : Sto} {r : Int32 × Sto} (h : fX12_slides a0 a1 a2 σ = some r) : ∃ fs, hs_o σ 12 a0 = some fs := (ck_of h).1
def fX12_out (a0 : Nat) (a1 : Int32) (σ : Sto) : Option (Int32 × Sto) := ck σ 12 a0 (cb (fX12_isLevel a0 a1 σ) fun r2 σ1 => (if r2 = 0 then (some ((-1 : Int32), σ1)) else ((gR σ1 12 a0 47).bind fun t3 => ((aI σ1 2 t3 ((18 : Int32))).bind fun t4 => (cb (fX12_takesLevels a0 ((((((((1 : Int32)) <<< (t4 &&& 31))) - ((1 : Int32)))) &&& ((((((1 : Int32)) <<< (a1 &&& 31))) ^^^ ((-1 : Int32)))))) σ1) fun _ σ5 => (cb (fX12_tipsAt a0 σ5) fun r7 σ6 => (if 0 ≤ r7 then (some ((0 : Int32), σ6)) else (some ((1 : Int32), σ6)))))))))
set_option maxHeartbeats 2000000 in
theorem kX12_out (G : GP) (a0 : Nat) (a1 : Int32) (σ : Sto) : Me G mX12_out 6 0 0 jI [.ref a0, .int a1] σ (fX12_out a0 a1 σ) := by
  refine hs_me (lv := [(0, .ref a0), (1, .int a1)]) (plainFor_of_name (by decide +kernel)) (Nat.le_of_ble_eq_true rfl) rfl ?_
  unfold fX12_out
  refine hj_ck ?_
  refine hj_aload_n 0 dX12_out_0 rfl ?_
  refine hj_iload_n 1 dX12_out_1 rfl ?_
  refine hj_callV (ci := 12) (M' := mX12_isLevel) (h' := 2) (As := [.int a1]) mfX12_isLevel mvX12_isLevel ⟨_, _, rfl⟩ mlX12_352 dX12_out_2 (kX12_isLevel G _ _ _) (fun _ hr => cX12_isLevelk hr) ⟨Nat.le_of_ble_eq_true rfl, Nat.le_of_ble_eq_true rfl⟩ ⟨Nat.le_refl _, Nat.le_refl _⟩ rfl (Nat.le_of_ble_eq_true rfl) (fun r2 σ1 _ => ?_)
  refine hj_if_ne 10 dX12_out_5 (by decide) (fun _ => ?_) (fun _ => ?_)
  · refine hj_aload_n 0 dX12_out_10 rfl ?_
    refine hj_iconst (1 : Int32) dX12_out_11 (by decide) ?_
    refine hj_aload_n 0 dX12_out_12 rfl ?_
    refine hj_getR flX12_107 dX12_out_13 (fun t3 _ => ?_)
    refine hj_bipush (18 : Int32) dX12_out_16 (by decide) ?_
    refine hj_iald dX12_out_18 (fun t4 _ => ?_)
    refine hj_ishl dX12_out_19 ?_
    refine hj_iconst (1 : Int32) dX12_out_20 (by decide) ?_
    refine hj_isub dX12_out_21 ?_
    refine hj_iconst (1 : Int32) dX12_out_22 (by decide) ?_
    refine hj_iload_n 1 dX12_out_23 rfl ?_
    refine hj_ishl dX12_out_24 ?_
    refine hj_iconst (-1 : Int32) dX12_out_25 (by decide) ?_
    refine hj_ixor dX12_out_26 ?_
    refine hj_iand dX12_out_27 ?_
    refine hj_callV (ci := 12) (M' := mX12_takesLevels) (h' := 2) (As := [.int ((((((((1 : Int32)) <<< (t4 &&& 31))) - ((1 : Int32)))) &&& ((((((1 : Int32)) <<< (a1 &&& 31))) ^^^ ((-1 : Int32))))))]) mfX12_takesLevels mvX12_takesLevels ⟨_, _, rfl⟩ mlX12_380 dX12_out_28 (kX12_takesLevels G _ _ _) (fun _ hr => cX12_takesLevelsk hr) ⟨Nat.le_of_ble_eq_true rfl, Nat.le_of_ble_eq_true rfl⟩ ⟨Nat.le_refl _, Nat.le_refl _⟩ rfl (Nat.le_of_ble_eq_true rfl) (fun _ σ5 _ => ?_)
    refine hj_aload_n 0 dX12_out_31 rfl ?_
    refine hj_callV (ci := 12) (M' := mX12_tipsAt) (h' := 5) (As := []) mfX12_tipsAt mvX12_tipsAt ⟨_, _, rfl⟩ mlX12_361 dX12_out_32 (kX12_tipsAt G _ _) (fun _ hr => cX12_tipsAtk hr) ⟨Nat.le_of_ble_eq_true rfl, Nat.le_of_ble_eq_true rfl⟩ ⟨Nat.le_refl _, Nat.le_refl _⟩ rfl (Nat.le_of_ble_eq_true rfl) (fun r7 σ6 _ => ?_)
    refine hj_if_ge 42 dX12_out_35 (by decide) (fun _ => ?_) (fun _ => ?_)
    · refine hj_iconst (0 : Int32) dX12_out_42 (by decide) ?_
      exact hj_iret dX12_out_43 rfl rfl (Nat.le_refl _)
    · refine hj_iconst (1 : Int32) dX12_out_38 (by decide) ?_
      refine hj_goto 43 dX12_out_39 (by decide) ?_
      exact hj_iret dX12_out_43 rfl rfl (Nat.le_refl _)
  · refine hj_iconst (-1 : Int32) dX12_out_8 (by decide) ?_
    exact hj_iret dX12_out_9 rfl rfl (Nat.le_refl _)
theorem cX12_outk {a0 : Nat} {a1 : Int32} {σ : Sto} {r : Int32 × Sto} (h : fX12_out a0 a1 σ = some r) : ∃ fs, hs_o σ 12 a0 = some fs := (ck_of h).1
def fX12_adds (a0 : Nat) (a1 : Int64) (a2 : Int64) (σ : Sto) : Option (Unit × Sto) := ck σ 12 a0 ((gL σ 12 a0 59).bind fun t1 => (cb (fX12_common t1 a2 σ) fun r3 σ2 => ((gL σ2 12 a0 58).bind fun t4 => (if r3 = 0 then none else ((gL σ2 12 a0 59).bind fun t5 => (if r3 = 0 then none else ((pV σ2 12 a0 58 (.long ((((t4 * ((a2 / r3)))) + ((a1 * ((t5 / r3)))))))).bind fun σ6 => ((gL σ6 12 a0 59).bind fun t7 => (if r3 = 0 then none else ((pV σ6 12 a0 59 (.long ((((t7 / r3)) * a2)))).bind fun σ8 => ((gL σ8 12 a0 58).bind fun t9 => ((gL σ8 12 a0 59).bind fun t10 => (cb (fX12_common t9 t10 σ8) fun r12 σ11 => ((gL σ11 12 a0 58).bind fun t13 => (if r12 = 0 then none else ((pV σ11 12 a0 58 (.long ((t13 / r12)))).bind fun σ14 => ((gL σ14 12 a0 59).bind fun t15 => (if r12 = 0 then none else ((pV σ14 12 a0 59 (.long ((t15 / r12)))).bind fun σ16 => (some ((), σ16)))))))))))))))))))))
set_option maxHeartbeats 2000000 in
theorem kX12_adds (G : GP) (a0 : Nat) (a1 : Int64) (a2 : Int64) (σ : Sto) : Me G mX12_adds 2 0 0 jV [.ref a0, .long a1, .long a2] σ (fX12_adds a0 a1 a2 σ) := by
  refine hs_me (lv := [(0, .ref a0), (1, .long a1), (3, .long a2)]) (plainFor_of_name (by decide +kernel)) (Nat.le_of_ble_eq_true rfl) rfl ?_
  unfold fX12_adds
  refine hj_ck ?_
  refine hj_aload_n 0 dX12_adds_0 rfl ?_
  refine hj_getL flX12_383 dX12_adds_1 (fun t1 _ => ?_)
  refine hj_lload_n 2 dX12_adds_4 rfl ?_
  refine hj_callS (M' := mX12_common) (h' := 1) (As := [.long t1, .long a2]) mfX12_common msX12_common mlX12_357 dX12_adds_5 (kX12_common G _ _ _) ⟨Nat.le_of_ble_eq_true rfl, Nat.le_of_ble_eq_true rfl⟩ ⟨Nat.le_refl _, Nat.le_refl _⟩ rfl (Nat.le_of_ble_eq_true rfl) (fun r3 σ2 _ => ?_)
  refine hj_lstore (lv' := [(0, .ref a0), (1, .long a1), (3, .long a2), (5, .long r3)]) dX12_adds_8 (by decide) [1, 2, 3, 0] rfl ?_
  refine hj_aload_n 0 dX12_adds_10 rfl ?_
  refine hj_aload_n 0 dX12_adds_11 rfl ?_
  refine hj_getL flX12_387 dX12_adds_12 (fun t4 _ => ?_)
  refine hj_lload_n 2 dX12_adds_15 rfl ?_
  refine hj_lload 3 dX12_adds_16 rfl ?_
  refine hj_ldiv dX12_adds_18 (fun _ => ?_)
  refine hj_lmul dX12_adds_19 ?_
  refine hj_lload_n 1 dX12_adds_20 rfl ?_
  refine hj_aload_n 0 dX12_adds_21 rfl ?_
  refine hj_getL flX12_383 dX12_adds_22 (fun t5 _ => ?_)
  refine hj_lload 3 dX12_adds_25 rfl ?_
  refine hj_ldiv dX12_adds_27 (fun _ => ?_)
  refine hj_lmul dX12_adds_28 ?_
  refine hj_ladd dX12_adds_29 ?_
  refine hj_put (fpX12_387 _) (fun _ => rfl) (fun _ => rfl) dX12_adds_30 (fun σ6 _ => ?_)
  refine hj_aload_n 0 dX12_adds_33 rfl ?_
  refine hj_aload_n 0 dX12_adds_34 rfl ?_
  refine hj_getL flX12_383 dX12_adds_35 (fun t7 _ => ?_)
  refine hj_lload 3 dX12_adds_38 rfl ?_
  refine hj_ldiv dX12_adds_40 (fun _ => ?_)
  refine hj_lload_n 2 dX12_adds_41 rfl ?_
  refine hj_lmul dX12_adds_42 ?_
  refine hj_put (fpX12_383 _) (fun _ => rfl) (fun _ => rfl) dX12_adds_43 (fun σ8 _ => ?_)
  refine hj_aload_n 0 dX12_adds_46 rfl ?_
  refine hj_getL flX12_387 dX12_adds_47 (fun t9 _ => ?_)
  refine hj_aload_n 0 dX12_adds_50 rfl ?_
  refine hj_getL flX12_383 dX12_adds_51 (fun t10 _ => ?_)
  refine hj_callS (M' := mX12_common) (h' := 1) (As := [.long t9, .long t10]) mfX12_common msX12_common mlX12_357 dX12_adds_54 (kX12_common G _ _ _) ⟨Nat.le_of_ble_eq_true rfl, Nat.le_of_ble_eq_true rfl⟩ ⟨Nat.le_refl _, Nat.le_refl _⟩ rfl (Nat.le_of_ble_eq_true rfl) (fun r12 σ11 _ => ?_)
  refine hj_lstore (lv' := [(0, .ref a0), (1, .long a1), (3, .long a2), (5, .long r12)]) dX12_adds_57 (by decide) [1, 2, 3, 0] rfl ?_
  refine hj_aload_n 0 dX12_adds_59 rfl ?_
  refine hj_dup dX12_adds_60 rfl ?_
  refine hj_getL flX12_387 dX12_adds_61 (fun t13 _ => ?_)
  refine hj_lload 3 dX12_adds_64 rfl ?_
  refine hj_ldiv dX12_adds_66 (fun _ => ?_)
  refine hj_put (fpX12_387 _) (fun _ => rfl) (fun _ => rfl) dX12_adds_67 (fun σ14 _ => ?_)
  refine hj_aload_n 0 dX12_adds_70 rfl ?_
  refine hj_dup dX12_adds_71 rfl ?_
  refine hj_getL flX12_383 dX12_adds_72 (fun t15 _ => ?_)
  refine hj_lload 3 dX12_adds_75 rfl ?_
  refine hj_ldiv dX12_adds_77 (fun _ => ?_)
  refine hj_put (fpX12_383 _) (fun _ => rfl) (fun _ => rfl) dX12_adds_78 (fun σ16 _ => ?_)
  exact hj_vret dX12_adds_81 rfl rfl (Nat.le_refl _)
theorem cX12_addsk {a0 : Nat} {a1 : Int64} {a2 : Int64} {σ : Sto} {r : Unit × Sto} (h : fX12_adds a0 a1 a2 σ = some r) : ∃ fs, hs_o σ 12 a0 = some fs := (ck_of h).1
