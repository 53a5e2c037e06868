def fX2_measure_b126 (x2 : Int32) (x6 : Int32) (σ : Sto) : Option (Int32 × Sto) := (if x2 ≤ 0 then (some ((0 : Int32), σ)) else (if x6 = 0 then (some ((1 : Int32), σ)) else (some ((0 : Int32), σ))))
set_option maxHeartbeats 2000000 in
theorem sX2_measure_b126 {G : GP} {n0 : Nat} : ∀ (x2 : Int32) (x6 : Int32) (σ : Sto), Sim G mX2_measure 4 0 0 n0 jI 0 0 126 [(2, .int x2), (6, .int x6)] [] σ (fX2_measure_b126 x2 x6 σ) := by
  intro x2 x6 σ
  unfold fX2_measure_b126
  refine hj_iload_n 0 dX2_measure_126 rfl ?_
  refine hj_if_le 139 dX2_measure_127 (by decide) (fun _ => ?_) (fun _ => ?_)
  · refine hj_iconst (0 : Int32) dX2_measure_139 (by decide) ?_
    exact hj_zret dX2_measure_140 rfl (by decide) rfl (Nat.le_refl _)
  · refine hj_iload 1 dX2_measure_130 rfl ?_
    refine hj_if_ne 139 dX2_measure_132 (by decide) (fun _ => ?_) (fun _ => ?_)
    · refine hj_iconst (0 : Int32) dX2_measure_139 (by decide) ?_
      exact hj_zret dX2_measure_140 rfl (by decide) rfl (Nat.le_refl _)
    · refine hj_iconst (1 : Int32) dX2_measure_135 (by decide) ?_
      refine hj_goto 140 dX2_measure_136 (by decide) ?_
      exact hj_zret dX2_measure_140 rfl (by decide) rfl (Nat.le_refl _)
def fX2_measure_b18 : Nat → Nat → Int32 → Nat → Int32 → Int32 → Int32 → Int32 → Sto → Option (Int32 × Sto)
  | 0, _, _, _, _, _, _, _, _ => none
  | n + 1, x1, x2, x3, x4, x5, x6, x7, σ => (if (6 : Int32) ≤ x7 then (fX2_measure_b126 x2 x6 σ) else (if x6 ≤ 0 then (fX2_measure_b126 x2 x6 σ) else (lt ((((hs_rem x6 ((10 : Int32)))) - ((1 : Int32)))) fun v1 => (lt ((x6 / ((10 : Int32)))) fun v2 => (if v1 < 0 then (some ((0 : Int32), σ)) else ((gI σ 10 x1 0).bind fun t3 => (if t3 ≤ v1 then (some ((0 : Int32), σ)) else (if (x4 &&& ((((1 : Int32)) <<< (v1 &&& 31)))) = 0 then (lt ((x4 ||| ((((1 : Int32)) <<< (v1 &&& 31))))) fun v4 => ((gR σ 10 x1 3).bind fun t5 => ((aI σ 2 t5 v1).bind fun t6 => (lt ((x5 + t6)) fun v7 => ((gR σ 10 x1 3).bind fun t8 => ((aI σ 2 t8 v1).bind fun t9 => ((gR σ 10 x1 2).bind fun t10 => ((aI σ 2 t10 v1).bind fun t11 => (cb (fX6_add x3 ((((t9 * t11)).toInt64)) ((((2 : Int64)) * ((v7.toInt64)))) σ) fun _ σ12 => (fX2_measure_b18 n x1 x2 x3 v4 v7 v2 (x7 + (1 : Int32)) σ12)))))))))) else (some ((0 : Int32), σ))))))))))
set_option maxHeartbeats 2000000 in
theorem sX2_measure_b18 {G : GP} {n0 : Nat} : ∀ (n : Nat) (x1 : Nat) (x2 : Int32) (x3 : Nat) (x4 : Int32) (x5 : Int32) (x6 : Int32) (x7 : Int32) (σ : Sto), Sim G mX2_measure 4 0 0 n0 jI 0 0 18 [(1, .ref x1), (2, .int x2), (3, .ref x3), (4, .int x4), (5, .int x5), (6, .int x6), (7, .int x7)] [] σ (fX2_measure_b18 n x1 x2 x3 x4 x5 x6 x7 σ) := by
  intro n
  induction n with
  | zero => intros; rw [fX2_measure_b18]; exact hj_none
  | succ n ih =>
    intro x1 x2 x3 x4 x5 x6 x7 σ
    rw [fX2_measure_b18]
    refine hj_iload 6 dX2_measure_18 rfl ?_
    refine hj_bipush (6 : Int32) dX2_measure_20 (by decide) ?_
    refine hj_icmp_ge 126 dX2_measure_22 (by decide) (fun _ => ?_) (fun _ => ?_)
    · refine hj_loc (lv' := [(2, .int x2), (6, .int x6)]) [1, 5] rfl ?_
      exact sX2_measure_b126 _ _ _
    · refine hj_iload 5 dX2_measure_25 rfl ?_
      refine hj_if_le 126 dX2_measure_27 (by decide) (fun _ => ?_) (fun _ => ?_)
      · refine hj_loc (lv' := [(2, .int x2), (6, .int x6)]) [1, 5] rfl ?_
        exact sX2_measure_b126 _ _ _
      · refine hj_iload 5 dX2_measure_30 rfl ?_
        refine hj_bipush (10 : Int32) dX2_measure_32 (by decide) ?_
        refine hj_iremK dX2_measure_34 (by decide) ?_
        refine hj_iconst (1 : Int32) dX2_measure_35 (by decide) ?_
        refine hj_isub dX2_measure_36 ?_
        refine hj_ltI (fun v1 _ => ?_)
        refine hj_istore (lv' := [(1, .ref x1), (2, .int x2), (3, .ref x3), (4, .int x4), (5, .int x5), (6, .int x6), (7, .int x7), (8, .int v1)]) dX2_measure_37 (by decide) [1, 2, 3, 4, 5, 6, 7, 0] rfl ?_
        refine hj_iload 5 dX2_measure_39 rfl ?_
        refine hj_bipush (10 : Int32) dX2_measure_41 (by decide) ?_
        refine hj_idivK dX2_measure_43 (by decide) ?_
        refine hj_ltI (fun v2 _ => ?_)
        refine hj_istore (lv' := [(1, .ref x1), (2, .int x2), (3, .ref x3), (4, .int x4), (5, .int x5), (6, .int v2), (7, .int x7), (8, .int v1)]) dX2_measure_44 (by decide) [1, 2, 3, 4, 5, 0, 6, 7] rfl ?_
        refine hj_iload 7 dX2_measure_46 rfl ?_
        refine hj_if_lt 70 dX2_measure_48 (by decide) (fun _ => ?_) (fun _ => ?_)
        · refine hj_iconst (0 : Int32) dX2_measure_70 (by decide) ?_
          exact hj_zret dX2_measure_71 rfl (by decide) rfl (Nat.le_refl _)
        · refine hj_iload 7 dX2_measure_51 rfl ?_
          refine hj_aload_n 0 dX2_measure_53 rfl ?_
          refine hj_getI flX2_30 dX2_measure_54 (fun t3 _ => ?_)
          refine hj_icmp_ge 70 dX2_measure_57 (by decide) (fun _ => ?_) (fun _ => ?_)
          · refine hj_iconst (0 : Int32) dX2_measure_70 (by decide) ?_
            exact hj_zret dX2_measure_71 rfl (by decide) rfl (Nat.le_refl _)
          · refine hj_iload 3 dX2_measure_60 rfl ?_
            refine hj_iconst (1 : Int32) dX2_measure_62 (by decide) ?_
            refine hj_iload 7 dX2_measure_63 rfl ?_
            refine hj_ishl dX2_measure_65 ?_
            refine hj_iand dX2_measure_66 ?_
            refine hj_if_eq 72 dX2_measure_67 (by decide) (fun _ => ?_) (fun _ => ?_)
            · refine hj_iload 3 dX2_measure_72 rfl ?_
              refine hj_iconst (1 : Int32) dX2_measure_74 (by decide) ?_
              refine hj_iload 7 dX2_measure_75 rfl ?_
              refine hj_ishl dX2_measure_77 ?_
              refine hj_ior dX2_measure_78 ?_
              refine hj_ltI (fun v4 _ => ?_)
              refine hj_istore (lv' := [(1, .ref x1), (2, .int x2), (3, .ref x3), (4, .int v4), (5, .int x5), (6, .int v2), (7, .int x7), (8, .int v1)]) dX2_measure_79 (by decide) [1, 2, 3, 0, 4, 5, 6, 7] rfl ?_
              refine hj_iload 4 dX2_measure_81 rfl ?_
              refine hj_aload_n 0 dX2_measure_83 rfl ?_
              refine hj_getR flX2_36 dX2_measure_84 (fun t5 _ => ?_)
              refine hj_iload 7 dX2_measure_87 rfl ?_
              refine hj_iald dX2_measure_89 (fun t6 _ => ?_)
              refine hj_iadd dX2_measure_90 ?_
              refine hj_ltI (fun v7 _ => ?_)
              refine hj_istore (lv' := [(1, .ref x1), (2, .int x2), (3, .ref x3), (4, .int v4), (5, .int v7), (6, .int v2), (7, .int x7), (8, .int v1)]) dX2_measure_91 (by decide) [1, 2, 3, 4, 0, 5, 6, 7] rfl ?_
              refine hj_aload_n 2 dX2_measure_93 rfl ?_
              refine hj_aload_n 0 dX2_measure_94 rfl ?_
              refine hj_getR flX2_36 dX2_measure_95 (fun t8 _ => ?_)
              refine hj_iload 7 dX2_measure_98 rfl ?_
              refine hj_iald dX2_measure_100 (fun t9 _ => ?_)
              refine hj_aload_n 0 dX2_measure_101 rfl ?_
              refine hj_getR flX2_39 dX2_measure_102 (fun t10 _ => ?_)
              refine hj_iload 7 dX2_measure_105 rfl ?_
              refine hj_iald dX2_measure_107 (fun t11 _ => ?_)
              refine hj_imul dX2_measure_108 ?_
              refine hj_i2l dX2_measure_109 ?_
              refine hj_ldc2 (2 : Int64) kcX2_42 dX2_measure_110 ?_
              refine hj_iload 4 dX2_measure_113 rfl ?_
              refine hj_i2l dX2_measure_115 ?_
              refine hj_lmul dX2_measure_116 ?_
              refine hj_callV (ci := 6) (M' := mX6_add) (h' := 3) (As := [.long ((((t9 * t11)).toInt64)), .long ((((2 : Int64)) * ((v7.toInt64))))]) mfX6_add mvX6_add ⟨_, _, rfl⟩ mlX2_44 dX2_measure_117 (kX6_add G _ _ _ _) (fun _ hr => cX6_addk hr) ⟨Nat.le_of_ble_eq_true rfl, Nat.le_of_ble_eq_true rfl⟩ ⟨Nat.le_refl _, Nat.le_refl _⟩ rfl (Nat.le_of_ble_eq_true rfl) (fun _ σ12 _ => ?_)
              refine hj_iinc (lv' := [(1, .ref x1), (2, .int x2), (3, .ref x3), (4, .int v4), (5, .int v7), (6, .int v2), (7, .int (x7 + (1 : Int32))), (8, .int v1)]) 6 (1 : Int32) dX2_measure_120 rfl (by decide) (by decide) [1, 2, 3, 4, 5, 6, 0, 7] rfl ?_
              refine hj_goto 18 dX2_measure_123 (by decide) ?_
              refine hj_loc (lv' := [(1, .ref x1), (2, .int x2), (3, .ref x3), (4, .int v4), (5, .int v7), (6, .int v2), (7, .int (x7 + (1 : Int32)))]) [0, 1, 2, 3, 4, 5, 6] rfl ?_
              exact ih _ _ _ _ _ _ _ _
            · refine hj_iconst (0 : Int32) dX2_measure_70 (by decide) ?_
              exact hj_zret dX2_measure_71 rfl (by decide) rfl (Nat.le_refl _)
def fX2_measure (a0 : Nat) (a1 : Nat) (a2 : Int32) (a3 : Nat) (σ : Sto) : Option (Int32 × Sto) := ck σ 2 a0 (cb (fX6_become a3 ((0 : Int64)) ((1 : Int64)) σ) fun _ σ13 => (fX2_measure_b18 FU a1 a2 a3 ((0 : Int32)) ((0 : Int32)) a2 ((0 : Int32)) σ13))
set_option maxHeartbeats 2000000 in
theorem kX2_measure (G : GP) (a0 : Nat) (a1 : Nat) (a2 : Int32) (a3 : Nat) (σ : Sto) : Me G mX2_measure 4 0 0 jI [.ref a0, .ref a1, .int a2, .ref a3] σ (fX2_measure a0 a1 a2 a3 σ) := by
  refine hs_me (lv := [(0, .ref a0), (1, .ref a1), (2, .int a2), (3, .ref a3)]) (plainFor_of_name (by decide +kernel)) (Nat.le_of_ble_eq_true rfl) rfl ?_
  unfold fX2_measure
  refine hj_ck ?_
  refine hj_aload_n 3 dX2_measure_0 rfl ?_
  refine hj_lconst (0 : Int64) dX2_measure_1 (by decide) ?_
  refine hj_lconst (1 : Int64) dX2_measure_2 (by decide) ?_
  refine hj_callV (ci := 6) (M' := mX6_become) (h' := 2) (As := [.long ((0 : Int64)), .long ((1 : Int64))]) mfX6_become mvX6_become ⟨_, _, rfl⟩ mlX2_26 dX2_measure_3 (kX6_become G _ _ _ _) (fun _ hr => cX6_becomek hr) ⟨Nat.le_of_ble_eq_true rfl, Nat.le_of_ble_eq_true rfl⟩ ⟨Nat.le_refl _, Nat.le_refl _⟩ rfl (Nat.le_of_ble_eq_true rfl) (fun _ σ13 _ => ?_)
  refine hj_iconst (0 : Int32) dX2_measure_6 (by decide) ?_
  refine hj_istore (lv' := [(0, .ref a0), (1, .ref a1), (2, .int a2), (3, .ref a3), (4, .int (0 : Int32))]) dX2_measure_7 (by decide) [1, 2, 3, 4, 0] rfl ?_
  refine hj_iconst (0 : Int32) dX2_measure_9 (by decide) ?_
  refine hj_istore (lv' := [(0, .ref a0), (1, .ref a1), (2, .int a2), (3, .ref a3), (4, .int (0 : Int32)), (5, .int (0 : Int32))]) dX2_measure_10 (by decide) [1, 2, 3, 4, 5, 0] rfl ?_
  refine hj_iload_n 2 dX2_measure_12 rfl ?_
  refine hj_istore (lv' := [(0, .ref a0), (1, .ref a1), (2, .int a2), (3, .ref a3), (4, .int (0 : Int32)), (5, .int (0 : Int32)), (6, .int a2)]) dX2_measure_13 (by decide) [1, 2, 3, 4, 5, 6, 0] rfl ?_
  refine hj_iconst (0 : Int32) dX2_measure_15 (by decide) ?_
  refine hj_istore (lv' := [(0, .ref a0), (1, .ref a1), (2, .int a2), (3, .ref a3), (4, .int (0 : Int32)), (5, .int (0 : Int32)), (6, .int a2), (7, .int (0 : Int32))]) dX2_measure_16 (by decide) [1, 2, 3, 4, 5, 6, 7, 0] rfl ?_
  refine hj_loc (lv' := [(1, .ref a1), (2, .int a2), (3, .ref a3), (4, .int (0 : Int32)), (5, .int (0 : Int32)), (6, .int a2), (7, .int (0 : Int32))]) [1, 2, 3, 4, 5, 6, 7] rfl ?_
  exact sX2_measure_b18 _ _ _ _ _ _ _ _ _
theorem cX2_measurek {a0 : Nat} {a1 : Nat} {a2 : Int32} {a3 : Nat} {σ : Sto} {r : Int32 × Sto} (h : fX2_measure a0 a1 a2 a3 σ = some r) : ∃ fs, hs_o σ 2 a0 = some fs := (ck_of h).1
def fX2_chooseLowest_b161 (K57 : Nat → Nat → Int32 → Int32 → Int32 → Sto → Option (Unit × Sto)) (x0 : Nat) (x1 : Nat) (x2 : Int32) (x3 : Int32) (x4 : Int32) (σ : Sto) : Option (Unit × Sto) := (K57 x0 x1 x2 x3 (x4 + (1 : Int32)) σ)
set_option maxHeartbeats 2000000 in
theorem sX2_chooseLowest_b161 {G : GP} {n0 : Nat} {K57 : Nat → Nat → Int32 → Int32 → Int32 → Sto → Option (Unit × Sto)} (hK57 : ∀ (x0 : Nat) (x1 : Nat) (x2 : Int32) (x3 : Int32) (x4 : Int32) (σ : Sto), Sim G mX2_chooseLowest 4 0 0 n0 jV 0 0 57 [(0, .ref x0), (1, .ref x1), (2, .int x2), (3, .int x3), (4, .int x4)] [] σ (K57 x0 x1 x2 x3 x4 σ)) : ∀ (x0 : Nat) (x1 : Nat) (x2 : Int32) (x3 : Int32) (x4 : Int32) (σ : Sto), Sim G mX2_chooseLowest 4 0 0 n0 jV 0 0 161 [(0, .ref x0), (1, .ref x1), (2, .int x2), (3, .int x3), (4, .int x4)] [] σ (fX2_chooseLowest_b161 K57 x0 x1 x2 x3 x4 σ) := by
  intro x0 x1 x2 x3 x4 σ
  unfold fX2_chooseLowest_b161
  refine hj_iinc (lv' := [(0, .ref x0), (1, .ref x1), (2, .int x2), (3, .int x3), (4, .int (x4 + (1 : Int32)))]) 4 (1 : Int32) dX2_chooseLowest_161 rfl (by decide) (by decide) [1, 2, 3, 4, 0] rfl ?_
  refine hj_goto 57 dX2_chooseLowest_164 (by decide) ?_
  refine hj_loc (lv' := [(0, .ref x0), (1, .ref x1), (2, .int x2), (3, .int x3), (4, .int (x4 + (1 : Int32)))]) [0, 1, 2, 3, 4] rfl ?_
  exact hK57 _ _ _ _ _ _
def fX2_chooseLowest_b57 : Nat → Nat → Nat → Int32 → Int32 → Int32 → Sto → Option (Unit × Sto)
  | 0, _, _, _, _, _, _ => none
  | n + 1, x0, x1, x2, x3, x4, σ => ((gI σ 10 x1 0).bind fun t8 => (if t8 ≤ x4 then (some ((), σ)) else (if (x2 &&& ((((1 : Int32)) <<< (x4 &&& 31)))) = 0 then (fX2_chooseLowest_b161 (fX2_chooseLowest_b57 n) x0 x1 x2 x3 x4 σ) else ((gR σ 2 x0 2).bind fun t9 => ((gR σ 2 x0 0).bind fun t10 => ((aR σ 6 t10 ((x2 &&& ((((((1 : Int32)) <<< (x4 &&& 31))) ^^^ ((-1 : Int32))))))).bind fun t11 => (cb (fX6_copyFrom t9 t11 σ) fun _ σ12 => ((gR σ12 2 x0 2).bind fun t13 => ((gR σ12 10 x1 3).bind fun t14 => ((aI σ12 2 t14 x4).bind fun t15 => ((gR σ12 10 x1 2).bind fun t16 => ((aI σ12 2 t16 x4).bind fun t17 => (cb (fX6_add t13 ((((t15 * t17)).toInt64)) ((((2 : Int64)) * ((x3.toInt64)))) σ12) fun _ σ18 => ((gR σ18 2 x0 2).bind fun t19 => ((gR σ18 2 x0 0).bind fun t20 => ((aR σ18 6 t20 x2).bind fun t21 => (cb (fX6_isMoreThan t19 t21 σ18) fun r23 σ22 => (if r23 = 0 then (fX2_chooseLowest_b161 (fX2_chooseLowest_b57 n) x0 x1 x2 x3 x4 σ22) else ((gR σ22 2 x0 0).bind fun t24 => ((aR σ22 6 t24 x2).bind fun t25 => ((gR σ22 2 x0 2).bind fun t26 => (cb (fX6_copyFrom t25 t26 σ22) fun _ σ27 => ((gR σ27 2 x0 1).bind fun t28 => ((sI σ27 2 t28 x2 x4).bind fun σ29 => (fX2_chooseLowest_b161 (fX2_chooseLowest_b57 n) x0 x1 x2 x3 x4 σ29)))))))))))))))))))))))))
set_option maxHeartbeats 2000000 in
theorem sX2_chooseLowest_b57 {G : GP} {n0 : Nat} : ∀ (n : Nat) (x0 : Nat) (x1 : Nat) (x2 : Int32) (x3 : Int32) (x4 : Int32) (σ : Sto), Sim G mX2_chooseLowest 4 0 0 n0 jV 0 0 57 [(0, .ref x0), (1, .ref x1), (2, .int x2), (3, .int x3), (4, .int x4)] [] σ (fX2_chooseLowest_b57 n x0 x1 x2 x3 x4 σ) := by
  intro n
  induction n with
  | zero => intros; rw [fX2_chooseLowest_b57]; exact hj_none
  | succ n ih =>
    intro x0 x1 x2 x3 x4 σ
    rw [fX2_chooseLowest_b57]
    refine hj_iload 4 dX2_chooseLowest_57 rfl ?_
    refine hj_aload_n 1 dX2_chooseLowest_59 rfl ?_
    refine hj_getI flX2_30 dX2_chooseLowest_60 (fun t8 _ => ?_)
    refine hj_icmp_ge 167 dX2_chooseLowest_63 (by decide) (fun _ => ?_) (fun _ => ?_)
    · exact hj_vret dX2_chooseLowest_167 rfl rfl (Nat.le_refl _)
    · refine hj_iload_n 2 dX2_chooseLowest_66 rfl ?_
      refine hj_iconst (1 : Int32) dX2_chooseLowest_67 (by decide) ?_
      refine hj_iload 4 dX2_chooseLowest_68 rfl ?_
      refine hj_ishl dX2_chooseLowest_70 ?_
      refine hj_iand dX2_chooseLowest_71 ?_
      refine hj_if_eq 161 dX2_chooseLowest_72 (by decide) (fun _ => ?_) (fun _ => ?_)
      · refine hj_loc (lv' := [(0, .ref x0), (1, .ref x1), (2, .int x2), (3, .int x3), (4, .int x4)]) [0, 1, 2, 3, 4] rfl ?_
        exact sX2_chooseLowest_b161 ih _ _ _ _ _ _
      · refine hj_aload_n 0 dX2_chooseLowest_75 rfl ?_
        refine hj_getR flX2_22 dX2_chooseLowest_76 (fun t9 _ => ?_)
        refine hj_aload_n 0 dX2_chooseLowest_79 rfl ?_
        refine hj_getR flX2_11 dX2_chooseLowest_80 (fun t10 _ => ?_)
        refine hj_iload_n 2 dX2_chooseLowest_83 rfl ?_
        refine hj_iconst (1 : Int32) dX2_chooseLowest_84 (by decide) ?_
        refine hj_iload 4 dX2_chooseLowest_85 rfl ?_
        refine hj_ishl dX2_chooseLowest_87 ?_
        refine hj_iconst (-1 : Int32) dX2_chooseLowest_88 (by decide) ?_
        refine hj_ixor dX2_chooseLowest_89 ?_
        refine hj_iand dX2_chooseLowest_90 ?_
        refine hj_aald6 dX2_chooseLowest_91 (fun t11 _ => ?_)
        refine hj_callV (ci := 6) (M' := mX6_copyFrom) (h' := 1) (As := [.ref t11]) mfX6_copyFrom mvX6_copyFrom ⟨_, _, rfl⟩ mlX2_51 dX2_chooseLowest_92 (kX6_copyFrom G _ _ _) (fun _ hr => cX6_copyFromk hr) ⟨Nat.le_of_ble_eq_true rfl, Nat.le_of_ble_eq_true rfl⟩ ⟨Nat.le_refl _, Nat.le_refl _⟩ rfl (Nat.le_of_ble_eq_true rfl) (fun _ σ12 _ => ?_)
        refine hj_aload_n 0 dX2_chooseLowest_95 rfl ?_
        refine hj_getR flX2_22 dX2_chooseLowest_96 (fun t13 _ => ?_)
        refine hj_aload_n 1 dX2_chooseLowest_99 rfl ?_
        refine hj_getR flX2_36 dX2_chooseLowest_100 (fun t14 _ => ?_)
        refine hj_iload 4 dX2_chooseLowest_103 rfl ?_
        refine hj_iald dX2_chooseLowest_105 (fun t15 _ => ?_)
        refine hj_aload_n 1 dX2_chooseLowest_106 rfl ?_
        refine hj_getR flX2_39 dX2_chooseLowest_107 (fun t16 _ => ?_)
        refine hj_iload 4 dX2_chooseLowest_110 rfl ?_
        refine hj_iald dX2_chooseLowest_112 (fun t17 _ => ?_)
        refine hj_imul dX2_chooseLowest_113 ?_
        refine hj_i2l dX2_chooseLowest_114 ?_
        refine hj_ldc2 (2 : Int64) kcX2_42 dX2_chooseLowest_115 ?_
        refine hj_iload_n 3 dX2_chooseLowest_118 rfl ?_
        refine hj_i2l dX2_chooseLowest_119 ?_
        refine hj_lmul dX2_chooseLowest_120 ?_
        refine hj_callV (ci := 6) (M' := mX6_add) (h' := 3) (As := [.long ((((t15 * t17)).toInt64)), .long ((((2 : Int64)) * ((x3.toInt64))))]) mfX6_add mvX6_add ⟨_, _, rfl⟩ mlX2_44 dX2_chooseLowest_121 (kX6_add G _ _ _ _) (fun _ hr => cX6_addk hr) ⟨Nat.le_of_ble_eq_true rfl, Nat.le_of_ble_eq_true rfl⟩ ⟨Nat.le_refl _, Nat.le_refl _⟩ rfl (Nat.le_of_ble_eq_true rfl) (fun _ σ18 _ => ?_)
        refine hj_aload_n 0 dX2_chooseLowest_124 rfl ?_
        refine hj_getR flX2_22 dX2_chooseLowest_125 (fun t19 _ => ?_)
        refine hj_aload_n 0 dX2_chooseLowest_128 rfl ?_
        refine hj_getR flX2_11 dX2_chooseLowest_129 (fun t20 _ => ?_)
        refine hj_iload_n 2 dX2_chooseLowest_132 rfl ?_
        refine hj_aald6 dX2_chooseLowest_133 (fun t21 _ => ?_)
        refine hj_callV (ci := 6) (M' := mX6_isMoreThan) (h' := 1) (As := [.ref t21]) mfX6_isMoreThan mvX6_isMoreThan ⟨_, _, rfl⟩ mlX2_55 dX2_chooseLowest_134 (kX6_isMoreThan G _ _ _) (fun _ hr => cX6_isMoreThank hr) ⟨Nat.le_of_ble_eq_true rfl, Nat.le_of_ble_eq_true rfl⟩ ⟨Nat.le_refl _, Nat.le_refl _⟩ rfl (Nat.le_of_ble_eq_true rfl) (fun r23 σ22 _ => ?_)
        refine hj_if_eq 161 dX2_chooseLowest_137 (by decide) (fun _ => ?_) (fun _ => ?_)
        · refine hj_loc (lv' := [(0, .ref x0), (1, .ref x1), (2, .int x2), (3, .int x3), (4, .int x4)]) [0, 1, 2, 3, 4] rfl ?_
          exact sX2_chooseLowest_b161 ih _ _ _ _ _ _
        · refine hj_aload_n 0 dX2_chooseLowest_140 rfl ?_
          refine hj_getR flX2_11 dX2_chooseLowest_141 (fun t24 _ => ?_)
          refine hj_iload_n 2 dX2_chooseLowest_144 rfl ?_
          refine hj_aald6 dX2_chooseLowest_145 (fun t25 _ => ?_)
          refine hj_aload_n 0 dX2_chooseLowest_146 rfl ?_
          refine hj_getR flX2_22 dX2_chooseLowest_147 (fun t26 _ => ?_)
          refine hj_callV (ci := 6) (M' := mX6_copyFrom) (h' := 1) (As := [.ref t26]) mfX6_copyFrom mvX6_copyFrom ⟨_, _, rfl⟩ mlX2_51 dX2_chooseLowest_150 (kX6_copyFrom G _ _ _) (fun _ hr => cX6_copyFromk hr) ⟨Nat.le_of_ble_eq_true rfl, Nat.le_of_ble_eq_true rfl⟩ ⟨Nat.le_refl _, Nat.le_refl _⟩ rfl (Nat.le_of_ble_eq_true rfl) (fun _ σ27 _ => ?_)
          refine hj_aload_n 0 dX2_chooseLowest_153 rfl ?_
          refine hj_getR flX2_17 dX2_chooseLowest_154 (fun t28 _ => ?_)
          refine hj_iload_n 2 dX2_chooseLowest_157 rfl ?_
          refine hj_iload 4 dX2_chooseLowest_158 rfl ?_
          refine hj_iast dX2_chooseLowest_160 (fun σ29 _ => ?_)
          refine hj_loc (lv' := [(0, .ref x0), (1, .ref x1), (2, .int x2), (3, .int x3), (4, .int x4)]) [0, 1, 2, 3, 4] rfl ?_
          exact sX2_chooseLowest_b161 ih _ _ _ _ _ _
def fX2_chooseLowest_b43 (x0 : Nat) (x1 : Nat) (x2 : Int32) (x3 : Int32) (σ : Sto) : Option (Unit × Sto) := ((gR σ 2 x0 0).bind fun t5 => ((aR σ 6 t5 x2).bind fun t6 => (cb (fX6_become t6 ((0 : Int64)) ((1 : Int64)) σ) fun _ σ7 => (fX2_chooseLowest_b57 FU x0 x1 x2 x3 ((0 : Int32)) σ7))))
set_option maxHeartbeats 2000000 in
theorem sX2_chooseLowest_b43 {G : GP} {n0 : Nat} : ∀ (x0 : Nat) (x1 : Nat) (x2 : Int32) (x3 : Int32) (σ : Sto), Sim G mX2_chooseLowest 4 0 0 n0 jV 0 0 43 [(0, .ref x0), (1, .ref x1), (2, .int x2), (3, .int x3)] [] σ (fX2_chooseLowest_b43 x0 x1 x2 x3 σ) := by
  intro x0 x1 x2 x3 σ
  unfold fX2_chooseLowest_b43
  refine hj_aload_n 0 dX2_chooseLowest_43 rfl ?_
  refine hj_getR flX2_11 dX2_chooseLowest_44 (fun t5 _ => ?_)
  refine hj_iload_n 2 dX2_chooseLowest_47 rfl ?_
  refine hj_aald6 dX2_chooseLowest_48 (fun t6 _ => ?_)
  refine hj_lconst (0 : Int64) dX2_chooseLowest_49 (by decide) ?_
  refine hj_lconst (1 : Int64) dX2_chooseLowest_50 (by decide) ?_
  refine hj_callV (ci := 6) (M' := mX6_become) (h' := 2) (As := [.long ((0 : Int64)), .long ((1 : Int64))]) mfX6_become mvX6_become ⟨_, _, rfl⟩ mlX2_26 dX2_chooseLowest_51 (kX6_become G _ _ _ _) (fun _ hr => cX6_becomek hr) ⟨Nat.le_of_ble_eq_true rfl, Nat.le_of_ble_eq_true rfl⟩ ⟨Nat.le_refl _, Nat.le_refl _⟩ rfl (Nat.le_of_ble_eq_true rfl) (fun _ σ7 _ => ?_)
  refine hj_iconst (0 : Int32) dX2_chooseLowest_54 (by decide) ?_
  refine hj_istore (lv' := [(0, .ref x0), (1, .ref x1), (2, .int x2), (3, .int x3), (4, .int (0 : Int32))]) dX2_chooseLowest_55 (by decide) [1, 2, 3, 4, 0] rfl ?_
  refine hj_loc (lv' := [(0, .ref x0), (1, .ref x1), (2, .int x2), (3, .int x3), (4, .int (0 : Int32))]) [0, 1, 2, 3, 4] rfl ?_
  exact sX2_chooseLowest_b57 _ _ _ _ _ _ _
def fX2_chooseLowest_b35 (K5 : Nat → Nat → Int32 → Int32 → Int32 → Sto → Option (Unit × Sto)) (x0 : Nat) (x1 : Nat) (x2 : Int32) (x4 : Int32) (y0 : Int32) (y1 : Int32) (σ : Sto) : Option (Unit × Sto) := (lt ((y0 + y1)) fun v1 => (K5 x0 x1 x2 v1 (x4 + (1 : Int32)) σ))
set_option maxHeartbeats 2000000 in
theorem sX2_chooseLowest_b35 {G : GP} {n0 : Nat} {K5 : Nat → Nat → Int32 → Int32 → Int32 → Sto → Option (Unit × Sto)} (hK5 : ∀ (x0 : Nat) (x1 : Nat) (x2 : Int32) (x3 : Int32) (x4 : Int32) (σ : Sto), Sim G mX2_chooseLowest 4 0 0 n0 jV 0 0 5 [(0, .ref x0), (1, .ref x1), (2, .int x2), (3, .int x3), (4, .int x4)] [] σ (K5 x0 x1 x2 x3 x4 σ)) : ∀ (x0 : Nat) (x1 : Nat) (x2 : Int32) (x4 : Int32) (y0 : Int32) (y1 : Int32) (σ : Sto), Sim G mX2_chooseLowest 4 0 0 n0 jV 0 0 35 [(0, .ref x0), (1, .ref x1), (2, .int x2), (4, .int x4)] [.int y1, .int y0] σ (fX2_chooseLowest_b35 K5 x0 x1 x2 x4 y0 y1 σ) := by
  intro x0 x1 x2 x4 y0 y1 σ
  unfold fX2_chooseLowest_b35
  refine hj_iadd dX2_chooseLowest_35 ?_
  refine hj_ltI (fun v1 _ => ?_)
  refine hj_istore_n (lv' := [(0, .ref x0), (1, .ref x1), (2, .int x2), (3, .int v1), (4, .int x4)]) dX2_chooseLowest_36 (by decide) [1, 2, 3, 0, 4] rfl ?_
  refine hj_iinc (lv' := [(0, .ref x0), (1, .ref x1), (2, .int x2), (3, .int v1), (4, .int (x4 + (1 : Int32)))]) 4 (1 : Int32) dX2_chooseLowest_37 rfl (by decide) (by decide) [1, 2, 3, 4, 0] rfl ?_
  refine hj_goto 5 dX2_chooseLowest_40 (by decide) ?_
  refine hj_loc (lv' := [(0, .ref x0), (1, .ref x1), (2, .int x2), (3, .int v1), (4, .int (x4 + (1 : Int32)))]) [0, 1, 2, 3, 4] rfl ?_
  exact hK5 _ _ _ _ _ _
def fX2_chooseLowest_b5 : Nat → Nat → Nat → Int32 → Int32 → Int32 → Sto → Option (Unit × Sto)
  | 0, _, _, _, _, _, _ => none
  | n + 1, x0, x1, x2, x3, x4, σ => ((gI σ 10 x1 0).bind fun t2 => (if t2 ≤ x4 then (fX2_chooseLowest_b43 x0 x1 x2 x3 σ) else (if (x2 &&& ((((1 : Int32)) <<< (x4 &&& 31)))) = 0 then (fX2_chooseLowest_b35 (fX2_chooseLowest_b5 n) x0 x1 x2 x4 x3 ((0 : Int32)) σ) else ((gR σ 10 x1 3).bind fun t3 => ((aI σ 2 t3 x4).bind fun t4 => (fX2_chooseLowest_b35 (fX2_chooseLowest_b5 n) x0 x1 x2 x4 x3 t4 σ))))))
set_option maxHeartbeats 2000000 in
theorem sX2_chooseLowest_b5 {G : GP} {n0 : Nat} : ∀ (n : Nat) (x0 : Nat) (x1 : Nat) (x2 : Int32) (x3 : Int32) (x4 : Int32) (σ : Sto), Sim G mX2_chooseLowest 4 0 0 n0 jV 0 0 5 [(0, .ref x0), (1, .ref x1), (2, .int x2), (3, .int x3), (4, .int x4)] [] σ (fX2_chooseLowest_b5 n x0 x1 x2 x3 x4 σ) := by
  intro n
  induction n with
  | zero => intros; rw [fX2_chooseLowest_b5]; exact hj_none
  | succ n ih =>
    intro x0 x1 x2 x3 x4 σ
    rw [fX2_chooseLowest_b5]
    refine hj_iload 4 dX2_chooseLowest_5 rfl ?_
    refine hj_aload_n 1 dX2_chooseLowest_7 rfl ?_
    refine hj_getI flX2_30 dX2_chooseLowest_8 (fun t2 _ => ?_)
    refine hj_icmp_ge 43 dX2_chooseLowest_11 (by decide) (fun _ => ?_) (fun _ => ?_)
    · refine hj_loc (lv' := [(0, .ref x0), (1, .ref x1), (2, .int x2), (3, .int x3)]) [0, 1, 2, 3] rfl ?_
      exact sX2_chooseLowest_b43 _ _ _ _ _
    · refine hj_iload_n 3 dX2_chooseLowest_14 rfl ?_
      refine hj_iload_n 2 dX2_chooseLowest_15 rfl ?_
      refine hj_iconst (1 : Int32) dX2_chooseLowest_16 (by decide) ?_
      refine hj_iload 4 dX2_chooseLowest_17 rfl ?_
      refine hj_ishl dX2_chooseLowest_19 ?_
      refine hj_iand dX2_chooseLowest_20 ?_
      refine hj_if_eq 34 dX2_chooseLowest_21 (by decide) (fun _ => ?_) (fun _ => ?_)
      · refine hj_iconst (0 : Int32) dX2_chooseLowest_34 (by decide) ?_
        refine hj_loc (lv' := [(0, .ref x0), (1, .ref x1), (2, .int x2), (4, .int x4)]) [0, 1, 2, 4] rfl ?_
        exact sX2_chooseLowest_b35 ih _ _ _ _ _ _ _
      · refine hj_aload_n 1 dX2_chooseLowest_24 rfl ?_
        refine hj_getR flX2_36 dX2_chooseLowest_25 (fun t3 _ => ?_)
        refine hj_iload 4 dX2_chooseLowest_28 rfl ?_
        refine hj_iald dX2_chooseLowest_30 (fun t4 _ => ?_)
        refine hj_goto 35 dX2_chooseLowest_31 (by decide) ?_
        refine hj_loc (lv' := [(0, .ref x0), (1, .ref x1), (2, .int x2), (4, .int x4)]) [0, 1, 2, 4] rfl ?_
        exact sX2_chooseLowest_b35 ih _ _ _ _ _ _ _
def fX2_chooseLowest (a0 : Nat) (a1 : Nat) (a2 : Int32) (σ : Sto) : Option (Unit × Sto) := ck σ 2 a0 (fX2_chooseLowest_b5 FU a0 a1 a2 ((0 : Int32)) ((0 : Int32)) σ)
set_option maxHeartbeats 2000000 in
theorem kX2_chooseLowest (G : GP) (a0 : Nat) (a1 : Nat) (a2 : Int32) (σ : Sto) : Me G mX2_chooseLowest 4 0 0 jV [.ref a0, .ref a1, .int a2] σ (fX2_chooseLowest a0 a1 a2 σ) := by
  refine hs_me (lv := [(0, .ref a0), (1, .ref a1), (2, .int a2)]) (plainFor_of_name (by decide +kernel)) (Nat.le_of_ble_eq_true rfl) rfl ?_
  unfold fX2_chooseLowest
  refine hj_ck ?_
  refine hj_iconst (0 : Int32) dX2_chooseLowest_0 (by decide) ?_
  refine hj_istore_n (lv' := [(0, .ref a0), (1, .ref a1), (2, .int a2), (3, .int (0 : Int32))]) dX2_chooseLowest_1 (by decide) [1, 2, 3, 0] rfl ?_
  refine hj_iconst (0 : Int32) dX2_chooseLowest_2 (by decide) ?_
  refine hj_istore (lv' := [(0, .ref a0), (1, .ref a1), (2, .int a2), (3, .int (0 : Int32)), (4, .int (0 : Int32))]) dX2_chooseLowest_3 (by decide) [1, 2, 3, 4, 0] rfl ?_
  refine hj_loc (lv' := [(0, .ref a0), (1, .ref a1), (2, .int a2), (3, .int (0 : Int32)), (4, .int (0 : Int32))]) [0, 1, 2, 3, 4] rfl ?_
  exact sX2_chooseLowest_b5 _ _ _ _ _ _ _
theorem cX2_chooseLowestk {a0 : Nat} {a1 : Nat} {a2 : Int32} {σ : Sto} {r : Unit × Sto} (h : fX2_chooseLowest a0 a1 a2 σ = some r) : ∃ fs, hs_o σ 2 a0 = some fs := (ck_of h).1
def fX2_findBest_b52 : Nat → Nat → Int32 → Int32 → Int32 → Sto → Option (Int32 × Sto)
  | 0, _, _, _, _, _ => none
  | n + 1, x0, x3, x4, x5, σ => (if (6 : Int32) ≤ x5 then (some (x3, σ)) else (if x4 ≤ 0 then (some (x3, σ)) else (if (64 : Int32) ≤ x4 then (some (x3, σ)) else ((gR σ 2 x0 1).bind fun t1 => ((aI σ 2 t1 x4).bind fun t2 => (lt ((((((x3 * ((10 : Int32)))) + t2)) + ((1 : Int32)))) fun v3 => ((gR σ 2 x0 1).bind fun t4 => ((aI σ 2 t4 x4).bind fun t5 => (lt ((x4 &&& ((((((1 : Int32)) <<< (t5 &&& 31))) ^^^ ((-1 : Int32)))))) fun v6 => (fX2_findBest_b52 n x0 v3 v6 (x5 + (1 : Int32)) σ))))))))))
set_option maxHeartbeats 2000000 in
theorem sX2_findBest_b52 {G : GP} {n0 : Nat} : ∀ (n : Nat) (x0 : Nat) (x3 : Int32) (x4 : Int32) (x5 : Int32) (σ : Sto), Sim G mX2_findBest 5 0 0 n0 jI 0 0 52 [(0, .ref x0), (3, .int x3), (4, .int x4), (5, .int x5)] [] σ (fX2_findBest_b52 n x0 x3 x4 x5 σ) := by
  intro n
  induction n with
  | zero => intros; rw [fX2_findBest_b52]; exact hj_none
  | succ n ih =>
    intro x0 x3 x4 x5 σ
    rw [fX2_findBest_b52]
    refine hj_iload 3 dX2_findBest_52 rfl ?_
    refine hj_bipush (6 : Int32) dX2_findBest_54 (by decide) ?_
    refine hj_icmp_ge 108 dX2_findBest_56 (by decide) (fun _ => ?_) (fun _ => ?_)
    · refine hj_iload_n 1 dX2_findBest_108 rfl ?_
      exact hj_iret dX2_findBest_109 rfl rfl (Nat.le_refl _)
    · refine hj_iload 2 dX2_findBest_59 rfl ?_
      refine hj_if_le 108 dX2_findBest_61 (by decide) (fun _ => ?_) (fun _ => ?_)
      · refine hj_iload_n 1 dX2_findBest_108 rfl ?_
        exact hj_iret dX2_findBest_109 rfl rfl (Nat.le_refl _)
      · refine hj_iload 2 dX2_findBest_64 rfl ?_
        refine hj_bipush (64 : Int32) dX2_findBest_66 (by decide) ?_
        refine hj_icmp_ge 108 dX2_findBest_68 (by decide) (fun _ => ?_) (fun _ => ?_)
        · refine hj_iload_n 1 dX2_findBest_108 rfl ?_
          exact hj_iret dX2_findBest_109 rfl rfl (Nat.le_refl _)
        · refine hj_iload_n 1 dX2_findBest_71 rfl ?_
          refine hj_bipush (10 : Int32) dX2_findBest_72 (by decide) ?_
          refine hj_imul dX2_findBest_74 ?_
          refine hj_aload_n 0 dX2_findBest_75 rfl ?_
          refine hj_getR flX2_17 dX2_findBest_76 (fun t1 _ => ?_)
          refine hj_iload 2 dX2_findBest_79 rfl ?_
          refine hj_iald dX2_findBest_81 (fun t2 _ => ?_)
          refine hj_iadd dX2_findBest_82 ?_
          refine hj_iconst (1 : Int32) dX2_findBest_83 (by decide) ?_
          refine hj_iadd dX2_findBest_84 ?_
          refine hj_ltI (fun v3 _ => ?_)
          refine hj_istore_n (lv' := [(0, .ref x0), (3, .int v3), (4, .int x4), (5, .int x5)]) dX2_findBest_85 (by decide) [1, 0, 2, 3] rfl ?_
          refine hj_iload 2 dX2_findBest_86 rfl ?_
          refine hj_iconst (1 : Int32) dX2_findBest_88 (by decide) ?_
          refine hj_aload_n 0 dX2_findBest_89 rfl ?_
          refine hj_getR flX2_17 dX2_findBest_90 (fun t4 _ => ?_)
          refine hj_iload 2 dX2_findBest_93 rfl ?_
          refine hj_iald dX2_findBest_95 (fun t5 _ => ?_)
          refine hj_ishl dX2_findBest_96 ?_
          refine hj_iconst (-1 : Int32) dX2_findBest_97 (by decide) ?_
          refine hj_ixor dX2_findBest_98 ?_
          refine hj_iand dX2_findBest_99 ?_
          refine hj_ltI (fun v6 _ => ?_)
          refine hj_istore (lv' := [(0, .ref x0), (3, .int v3), (4, .int v6), (5, .int x5)]) dX2_findBest_100 (by decide) [1, 2, 0, 3] rfl ?_
          refine hj_iinc (lv' := [(0, .ref x0), (3, .int v3), (4, .int v6), (5, .int (x5 + (1 : Int32)))]) 3 (1 : Int32) dX2_findBest_102 rfl (by decide) (by decide) [1, 2, 3, 0] rfl ?_
          refine hj_goto 52 dX2_findBest_105 (by decide) ?_
          refine hj_loc (lv' := [(0, .ref x0), (3, .int v3), (4, .int v6), (5, .int (x5 + (1 : Int32)))]) [0, 1, 2, 3] rfl ?_
          exact ih _ _ _ _ _
def fX2_findBest_b44 (x0 : Nat) (x2 : Int32) (σ : Sto) : Option (Int32 × Sto) := (fX2_findBest_b52 FU x0 ((0 : Int32)) x2 ((0 : Int32)) σ)
set_option maxHeartbeats 2000000 in
theorem sX2_findBest_b44 {G : GP} {n0 : Nat} : ∀ (x0 : Nat) (x2 : Int32) (σ : Sto), Sim G mX2_findBest 5 0 0 n0 jI 0 0 44 [(0, .ref x0), (2, .int x2)] [] σ (fX2_findBest_b44 x0 x2 σ) := by
  intro x0 x2 σ
  unfold fX2_findBest_b44
  refine hj_iconst (0 : Int32) dX2_findBest_44 (by decide) ?_
  refine hj_istore_n (lv' := [(0, .ref x0), (2, .int x2), (3, .int (0 : Int32))]) dX2_findBest_45 (by decide) [1, 2, 0] rfl ?_
  refine hj_iload_n 1 dX2_findBest_46 rfl ?_
  refine hj_istore (lv' := [(0, .ref x0), (2, .int x2), (3, .int (0 : Int32)), (4, .int x2)]) dX2_findBest_47 (by decide) [1, 2, 3, 0] rfl ?_
  refine hj_iconst (0 : Int32) dX2_findBest_49 (by decide) ?_
  refine hj_istore (lv' := [(0, .ref x0), (2, .int x2), (3, .int (0 : Int32)), (4, .int x2), (5, .int (0 : Int32))]) dX2_findBest_50 (by decide) [1, 2, 3, 4, 0] rfl ?_
  refine hj_loc (lv' := [(0, .ref x0), (3, .int (0 : Int32)), (4, .int x2), (5, .int (0 : Int32))]) [0, 2, 3, 4] rfl ?_
  exact sX2_findBest_b52 _ _ _ _ _ _
def fX2_findBest_b38 (K13 : Nat → Nat → Int32 → Int32 → Sto → Option (Int32 × Sto)) (x0 : Nat) (x1 : Nat) (x2 : Int32) (x3 : Int32) (σ : Sto) : Option (Int32 × Sto) := (K13 x0 x1 x2 (x3 + (1 : Int32)) σ)
set_option maxHeartbeats 2000000 in
theorem sX2_findBest_b38 {G : GP} {n0 : Nat} {K13 : Nat → Nat → Int32 → Int32 → Sto → Option (Int32 × Sto)} (hK13 : ∀ (x0 : Nat) (x1 : Nat) (x2 : Int32) (x3 : Int32) (σ : Sto), Sim G mX2_findBest 5 0 0 n0 jI 0 0 13 [(0, .ref x0), (1, .ref x1), (2, .int x2), (3, .int x3)] [] σ (K13 x0 x1 x2 x3 σ)) : ∀ (x0 : Nat) (x1 : Nat) (x2 : Int32) (x3 : Int32) (σ : Sto), Sim G mX2_findBest 5 0 0 n0 jI 0 0 38 [(0, .ref x0), (1, .ref x1), (2, .int x2), (3, .int x3)] [] σ (fX2_findBest_b38 K13 x0 x1 x2 x3 σ) := by
  intro x0 x1 x2 x3 σ
  unfold fX2_findBest_b38
  refine hj_iinc (lv' := [(0, .ref x0), (1, .ref x1), (2, .int x2), (3, .int (x3 + (1 : Int32)))]) 3 (1 : Int32) dX2_findBest_38 rfl (by decide) (by decide) [1, 2, 3, 0] rfl ?_
  refine hj_goto 13 dX2_findBest_41 (by decide) ?_
  refine hj_loc (lv' := [(0, .ref x0), (1, .ref x1), (2, .int x2), (3, .int (x3 + (1 : Int32)))]) [0, 1, 2, 3] rfl ?_
  exact hK13 _ _ _ _ _
def fX2_findBest_b13 : Nat → Nat → Nat → Int32 → Int32 → Sto → Option (Int32 × Sto)
  | 0, _, _, _, _, _ => none
  | n + 1, x0, x1, x2, x3, σ => (if x2 < x3 then (fX2_findBest_b44 x0 x2 σ) else (if (64 : Int32) ≤ x3 then (fX2_findBest_b44 x0 x2 σ) else (if (x3 &&& ((x2 ^^^ ((-1 : Int32))))) = 0 then (cb (fX2_chooseLowest x0 x1 x3 σ) fun _ σ7 => (fX2_findBest_b38 (fX2_findBest_b13 n) x0 x1 x2 x3 σ7)) else (fX2_findBest_b38 (fX2_findBest_b13 n) x0 x1 x2 x3 σ))))
set_option maxHeartbeats 2000000 in
theorem sX2_findBest_b13 {G : GP} {n0 : Nat} : ∀ (n : Nat) (x0 : Nat) (x1 : Nat) (x2 : Int32) (x3 : Int32) (σ : Sto), Sim G mX2_findBest 5 0 0 n0 jI 0 0 13 [(0, .ref x0), (1, .ref x1), (2, .int x2), (3, .int x3)] [] σ (fX2_findBest_b13 n x0 x1 x2 x3 σ) := by
  intro n
  induction n with
  | zero => intros; rw [fX2_findBest_b13]; exact hj_none
  | succ n ih =>
    intro x0 x1 x2 x3 σ
    rw [fX2_findBest_b13]
    refine hj_iload_n 3 dX2_findBest_13 rfl ?_
    refine hj_iload_n 2 dX2_findBest_14 rfl ?_
    refine hj_icmp_gt 44 dX2_findBest_15 (by decide) (fun _ => ?_) (fun _ => ?_)
    · refine hj_loc (lv' := [(0, .ref x0), (2, .int x2)]) [0, 2] rfl ?_
      exact sX2_findBest_b44 _ _ _
    · refine hj_iload_n 3 dX2_findBest_18 rfl ?_
      refine hj_bipush (64 : Int32) dX2_findBest_19 (by decide) ?_
      refine hj_icmp_ge 44 dX2_findBest_21 (by decide) (fun _ => ?_) (fun _ => ?_)
      · refine hj_loc (lv' := [(0, .ref x0), (2, .int x2)]) [0, 2] rfl ?_
        exact sX2_findBest_b44 _ _ _
      · refine hj_iload_n 3 dX2_findBest_24 rfl ?_
        refine hj_iload_n 2 dX2_findBest_25 rfl ?_
        refine hj_iconst (-1 : Int32) dX2_findBest_26 (by decide) ?_
        refine hj_ixor dX2_findBest_27 ?_
        refine hj_iand dX2_findBest_28 ?_
        refine hj_if_ne 38 dX2_findBest_29 (by decide) (fun _ => ?_) (fun _ => ?_)
        · refine hj_loc (lv' := [(0, .ref x0), (1, .ref x1), (2, .int x2), (3, .int x3)]) [0, 1, 2, 3] rfl ?_
          exact sX2_findBest_b38 ih _ _ _ _ _
        · refine hj_aload_n 0 dX2_findBest_32 rfl ?_
          refine hj_aload_n 1 dX2_findBest_33 rfl ?_
          refine hj_iload_n 3 dX2_findBest_34 rfl ?_
          refine hj_callV (ci := 2) (M' := mX2_chooseLowest) (h' := 4) (As := [.ref x1, .int x3]) mfX2_chooseLowest mvX2_chooseLowest ⟨_, _, rfl⟩ mlX2_47 dX2_findBest_35 (kX2_chooseLowest G _ _ _ _) (fun _ hr => cX2_chooseLowestk hr) ⟨Nat.le_of_ble_eq_true rfl, Nat.le_of_ble_eq_true rfl⟩ ⟨Nat.le_refl _, Nat.le_refl _⟩ rfl (Nat.le_of_ble_eq_true rfl) (fun _ σ7 _ => ?_)
          refine hj_loc (lv' := [(0, .ref x0), (1, .ref x1), (2, .int x2), (3, .int x3)]) [0, 1, 2, 3] rfl ?_
          exact sX2_findBest_b38 ih _ _ _ _ _
def fX2_findBest (a0 : Nat) (a1 : Nat) (a2 : Int32) (σ : Sto) : Option (Int32 × Sto) := ck σ 2 a0 ((gR σ 2 a0 0).bind fun t8 => ((aR σ 6 t8 ((0 : Int32))).bind fun t9 => (cb (fX6_become t9 ((0 : Int64)) ((1 : Int64)) σ) fun _ σ10 => (fX2_findBest_b13 FU a0 a1 a2 ((1 : Int32)) σ10))))
set_option maxHeartbeats 2000000 in
theorem kX2_findBest (G : GP) (a0 : Nat) (a1 : Nat) (a2 : Int32) (σ : Sto) : Me G mX2_findBest 5 0 0 jI [.ref a0, .ref a1, .int a2] σ (fX2_findBest a0 a1 a2 σ) := by
  refine hs_me (lv := [(0, .ref a0), (1, .ref a1), (2, .int a2)]) (plainFor_of_name (by decide +kernel)) (Nat.le_of_ble_eq_true rfl) rfl ?_
  unfold fX2_findBest
  refine hj_ck ?_
  refine hj_aload_n 0 dX2_findBest_0 rfl ?_
  refine hj_getR flX2_11 dX2_findBest_1 (fun t8 _ => ?_)
  refine hj_iconst (0 : Int32) dX2_findBest_4 (by decide) ?_
  refine hj_aald6 dX2_findBest_5 (fun t9 _ => ?_)
  refine hj_lconst (0 : Int64) dX2_findBest_6 (by decide) ?_
  refine hj_lconst (1 : Int64) dX2_findBest_7 (by decide) ?_
  refine hj_callV (ci := 6) (M' := mX6_become) (h' := 2) (As := [.long ((0 : Int64)), .long ((1 : Int64))]) mfX6_become mvX6_become ⟨_, _, rfl⟩ mlX2_26 dX2_findBest_8 (kX6_become G _ _ _ _) (fun _ hr => cX6_becomek hr) ⟨Nat.le_of_ble_eq_true rfl, Nat.le_of_ble_eq_true rfl⟩ ⟨Nat.le_refl _, Nat.le_refl _⟩ rfl (Nat.le_of_ble_eq_true rfl) (fun _ σ10 _ => ?_)
  refine hj_iconst (1 : Int32) dX2_findBest_11 (by decide) ?_
  refine hj_istore_n (lv' := [(0, .ref a0), (1, .ref a1), (2, .int a2), (3, .int (1 : Int32))]) dX2_findBest_12 (by decide) [1, 2, 3, 0] rfl ?_
  refine hj_loc (lv' := [(0, .ref a0), (1, .ref a1), (2, .int a2), (3, .int (1 : Int32))]) [0, 1, 2, 3] rfl ?_
  exact sX2_findBest_b13 _ _ _ _ _ _
theorem cX2_findBestk {a0 : Nat} {a1 : Nat} {a2 : Int32} {σ : Sto} {r : Int32 × Sto} (h : fX2_findBest a0 a1 a2 σ = some r) : ∃ fs, hs_o σ 2 a0 = some fs := (ck_of h).1
