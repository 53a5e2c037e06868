def fX10_reckon (a0 : Int32) (a1 : Int32) (a2 : Int32) (σ : Sto) : Option (Int32 × Sto) := (if a0 = (42 : Int32) then (some ((a1 * a2), σ)) else (if a0 = (43 : Int32) then (some ((a1 + a2), σ)) else (if a0 = (44 : Int32) then (if a2 = 0 then (some ((0 : Int32), σ)) else (if a2 = 0 then none else (some ((a1 / a2), σ)))) else (if a0 = (45 : Int32) then (some ((a1 - a2), σ)) else (if a2 = 0 then (some ((0 : Int32), σ)) else (if a2 = 0 then none else (some ((a1 / a2), σ))))))))
set_option maxHeartbeats 2000000 in
theorem kX10_reckon (G : GP) (a0 : Int32) (a1 : Int32) (a2 : Int32) (σ : Sto) : Me G mX10_reckon 1 0 0 jI [.int a0, .int a1, .int a2] σ (fX10_reckon a0 a1 a2 σ) := by
  refine hs_me (lv := [(0, .int a0), (1, .int a1), (2, .int a2)]) (plainFor_of_name (by decide +kernel)) (Nat.le_of_ble_eq_true rfl) rfl ?_
  unfold fX10_reckon
  refine hj_iload_n 0 dX10_reckon_0 rfl ?_
  refine hj_ite (fun n0 => ?_) (fun n0 => ?_)
  · refine hj_tin (42 : Int32) (39) 40 dX10_reckon_1 n0 (by decide) (by decide) (by decide) (by decide) ?_
    refine hj_iload_n 1 dX10_reckon_40 rfl ?_
    refine hj_iload_n 2 dX10_reckon_41 rfl ?_
    refine hj_imul dX10_reckon_42 ?_
    exact hj_iret dX10_reckon_43 rfl rfl (Nat.le_refl _)
  · refine hj_ite (fun n1 => ?_) (fun n1 => ?_)
    · refine hj_tin (43 : Int32) (31) 32 dX10_reckon_1 n1 (by decide) (by decide) (by decide) (by decide) ?_
      refine hj_iload_n 1 dX10_reckon_32 rfl ?_
      refine hj_iload_n 2 dX10_reckon_33 rfl ?_
      refine hj_iadd dX10_reckon_34 ?_
      exact hj_iret dX10_reckon_35 rfl rfl (Nat.le_refl _)
    · refine hj_ite (fun n2 => ?_) (fun n2 => ?_)
      · refine hj_tin (44 : Int32) (43) 44 dX10_reckon_1 n2 (by decide) (by decide) (by decide) (by decide) ?_
        refine hj_iload_n 2 dX10_reckon_44 rfl ?_
        refine hj_if_ne 52 dX10_reckon_45 (by decide) (fun _ => ?_) (fun _ => ?_)
        · refine hj_iload_n 1 dX10_reckon_52 rfl ?_
          refine hj_iload_n 2 dX10_reckon_53 rfl ?_
          refine hj_idiv dX10_reckon_54 (fun _ => ?_)
          exact hj_iret dX10_reckon_55 rfl rfl (Nat.le_refl _)
        · refine hj_iconst (0 : Int32) dX10_reckon_48 (by decide) ?_
          refine hj_goto 55 dX10_reckon_49 (by decide) ?_
          exact hj_iret dX10_reckon_55 rfl rfl (Nat.le_refl _)
      · refine hj_ite (fun n3 => ?_) (fun n3 => ?_)
        · refine hj_tin (45 : Int32) (35) 36 dX10_reckon_1 n3 (by decide) (by decide) (by decide) (by decide) ?_
          refine hj_iload_n 1 dX10_reckon_36 rfl ?_
          refine hj_iload_n 2 dX10_reckon_37 rfl ?_
          refine hj_isub dX10_reckon_38 ?_
          exact hj_iret dX10_reckon_39 rfl rfl (Nat.le_refl _)
        · refine hj_tout 44 dX10_reckon_1 (by have := lv_neT (a := 42) n0 (by decide); have := lv_neT (a := 43) n1 (by decide); have := lv_neT (a := 44) n2 (by decide); have := lv_neT (a := 45) n3 (by decide); omega) (by decide) ?_
          refine hj_iload_n 2 dX10_reckon_44 rfl ?_
          refine hj_if_ne 52 dX10_reckon_45 (by decide) (fun _ => ?_) (fun _ => ?_)
          · refine hj_iload_n 1 dX10_reckon_52 rfl ?_
            refine hj_iload_n 2 dX10_reckon_53 rfl ?_
            refine hj_idiv dX10_reckon_54 (fun _ => ?_)
            exact hj_iret dX10_reckon_55 rfl rfl (Nat.le_refl _)
          · refine hj_iconst (0 : Int32) dX10_reckon_48 (by decide) ?_
            refine hj_goto 55 dX10_reckon_49 (by decide) ?_
            exact hj_iret dX10_reckon_55 rfl rfl (Nat.le_refl _)
def fX10_variable (a0 : Nat) (a1 : Int32) (a2 : Nat) (a3 : Int32) (σ : Sto) : Option (Int32 × Sto) := ck σ 10 a0 ((gR σ 5 a2 1).bind fun t1 => ((aI σ 2 t1 a3).bind fun t2 => (if a1 = (11 : Int32) then ((gR σ 10 a0 2).bind fun t8 => ((aI σ 2 t8 t2).bind fun t9 => (some (t9, σ)))) else (if a1 = (12 : Int32) then ((gR σ 10 a0 3).bind fun t6 => ((aI σ 2 t6 t2).bind fun t7 => (some (t7, σ)))) else (if a1 = (13 : Int32) then (some (a3, σ)) else (if a1 = (14 : Int32) then ((gR σ 5 a2 2).bind fun t4 => ((aI σ 2 t4 a3).bind fun t5 => (some (t5, σ)))) else ((gI σ 5 a2 0).bind fun t3 => (some ((((t3 - ((1 : Int32)))) - a3), σ)))))))))
set_option maxHeartbeats 2000000 in
theorem kX10_variable (G : GP) (a0 : Nat) (a1 : Int32) (a2 : Nat) (a3 : Int32) (σ : Sto) : Me G mX10_variable 1 0 0 jI [.ref a0, .int a1, .ref a2, .int a3] σ (fX10_variable a0 a1 a2 a3 σ) := by
  refine hs_me (lv := [(0, .ref a0), (1, .int a1), (2, .ref a2), (3, .int a3)]) (plainFor_of_name (by decide +kernel)) (Nat.le_of_ble_eq_true rfl) rfl ?_
  unfold fX10_variable
  refine hj_ck ?_
  refine hj_aload_n 2 dX10_variable_0 rfl ?_
  refine hj_getR flX10_66 dX10_variable_1 (fun t1 _ => ?_)
  refine hj_iload_n 3 dX10_variable_4 rfl ?_
  refine hj_iald dX10_variable_5 (fun t2 _ => ?_)
  refine hj_istore (lv' := [(0, .ref a0), (1, .int a1), (2, .ref a2), (3, .int a3), (4, .int t2)]) dX10_variable_6 (by decide) [1, 2, 3, 4, 0] rfl ?_
  refine hj_iload_n 1 dX10_variable_8 rfl ?_
  refine hj_ite (fun n0 => ?_) (fun n0 => ?_)
  · refine hj_tin (11 : Int32) (31) 40 dX10_variable_9 n0 (by decide) (by decide) (by decide) (by decide) ?_
    refine hj_aload_n 0 dX10_variable_40 rfl ?_
    refine hj_getR flX10_19 dX10_variable_41 (fun t8 _ => ?_)
    refine hj_iload 4 dX10_variable_44 rfl ?_
    refine hj_iald dX10_variable_46 (fun t9 _ => ?_)
    exact hj_iret dX10_variable_47 rfl rfl (Nat.le_refl _)
  · refine hj_ite (fun n1 => ?_) (fun n1 => ?_)
    · refine hj_tin (12 : Int32) (39) 48 dX10_variable_9 n1 (by decide) (by decide) (by decide) (by decide) ?_
      refine hj_aload_n 0 dX10_variable_48 rfl ?_
      refine hj_getR flX10_23 dX10_variable_49 (fun t6 _ => ?_)
      refine hj_iload 4 dX10_variable_52 rfl ?_
      refine hj_iald dX10_variable_54 (fun t7 _ => ?_)
      exact hj_iret dX10_variable_55 rfl rfl (Nat.le_refl _)
    · refine hj_ite (fun n2 => ?_) (fun n2 => ?_)
      · refine hj_tin (13 : Int32) (47) 56 dX10_variable_9 n2 (by decide) (by decide) (by decide) (by decide) ?_
        refine hj_iload_n 3 dX10_variable_56 rfl ?_
        exact hj_iret dX10_variable_57 rfl rfl (Nat.le_refl _)
      · refine hj_ite (fun n3 => ?_) (fun n3 => ?_)
        · refine hj_tin (14 : Int32) (49) 58 dX10_variable_9 n3 (by decide) (by decide) (by decide) (by decide) ?_
          refine hj_aload_n 2 dX10_variable_58 rfl ?_
          refine hj_getR flX10_88 dX10_variable_59 (fun t4 _ => ?_)
          refine hj_iload_n 3 dX10_variable_62 rfl ?_
          refine hj_iald dX10_variable_63 (fun t5 _ => ?_)
          exact hj_iret dX10_variable_64 rfl rfl (Nat.le_refl _)
        · refine hj_tout 65 dX10_variable_9 (by have := lv_neT (a := 11) n0 (by decide); have := lv_neT (a := 12) n1 (by decide); have := lv_neT (a := 13) n2 (by decide); have := lv_neT (a := 14) n3 (by decide); omega) (by decide) ?_
          refine hj_aload_n 2 dX10_variable_65 rfl ?_
          refine hj_getI flX10_63 dX10_variable_66 (fun t3 _ => ?_)
          refine hj_iconst (1 : Int32) dX10_variable_69 (by decide) ?_
          refine hj_isub dX10_variable_70 ?_
          refine hj_iload_n 3 dX10_variable_71 rfl ?_
          refine hj_isub dX10_variable_72 ?_
          exact hj_iret dX10_variable_73 rfl rfl (Nat.le_refl _)
theorem cX10_variablek {a0 : Nat} {a1 : Int32} {a2 : Nat} {a3 : Int32} {σ : Sto} {r : Int32 × Sto} (h : fX10_variable a0 a1 a2 a3 σ = some r) : ∃ fs, hs_o σ 10 a0 = some fs := (ck_of h).1
def fX10_runLaw_b218 (K6 : Nat → Nat → Int32 → Int32 → Int32 → Sto → Option (Int32 × Sto)) (x0 : Nat) (x2 : Nat) (x3 : Int32) (x4 : Int32) (x5 : Int32) (σ : Sto) : Option (Int32 × Sto) := (K6 x0 x2 x3 x4 (x5 + (1 : Int32)) σ)
set_option maxHeartbeats 2000000 in
theorem sX10_runLaw_b218 {G : GP} {n0 : Nat} {K6 : Nat → Nat → Int32 → Int32 → Int32 → Sto → Option (Int32 × Sto)} (hK6 : ∀ (x0 : Nat) (x2 : Nat) (x3 : Int32) (x4 : Int32) (x5 : Int32) (σ : Sto), Sim G mX10_runLaw 2 0 0 n0 jI 0 0 6 [(0, .ref x0), (2, .ref x2), (3, .int x3), (4, .int x4), (5, .int x5)] [] σ (K6 x0 x2 x3 x4 x5 σ)) : ∀ (x0 : Nat) (x2 : Nat) (x3 : Int32) (x4 : Int32) (x5 : Int32) (σ : Sto), Sim G mX10_runLaw 2 0 0 n0 jI 0 0 218 [(0, .ref x0), (2, .ref x2), (3, .int x3), (4, .int x4), (5, .int x5)] [] σ (fX10_runLaw_b218 K6 x0 x2 x3 x4 x5 σ) := by
  intro x0 x2 x3 x4 x5 σ
  unfold fX10_runLaw_b218
  refine hj_iinc (lv' := [(0, .ref x0), (2, .ref x2), (3, .int x3), (4, .int x4), (5, .int (x5 + (1 : Int32)))]) 4 (1 : Int32) dX10_runLaw_218 rfl (by decide) (by decide) [1, 2, 3, 4, 0] rfl ?_
  refine hj_goto 6 dX10_runLaw_221 (by decide) ?_
  refine hj_loc (lv' := [(0, .ref x0), (2, .ref x2), (3, .int x3), (4, .int x4), (5, .int (x5 + (1 : Int32)))]) [0, 1, 2, 3, 4] rfl ?_
  exact hK6 _ _ _ _ _ _
def fX10_runLaw_b78 (K6 : Nat → Nat → Int32 → Int32 → Int32 → Sto → Option (Int32 × Sto)) (x0 : Nat) (x2 : Nat) (x3 : Int32) (x4 : Int32) (x5 : Int32) (y0 : Nat) (y1 : Int32) (y2 : Int32) (σ : Sto) : Option (Int32 × Sto) := ((sI σ 2 y0 y1 y2).bind fun σ21 => (fX10_runLaw_b218 K6 x0 x2 x3 (x4 + (1 : Int32)) x5 σ21))
set_option maxHeartbeats 2000000 in
theorem sX10_runLaw_b78 {G : GP} {n0 : Nat} {K6 : Nat → Nat → Int32 → Int32 → Int32 → Sto → Option (Int32 × Sto)} (hK6 : ∀ (x0 : Nat) (x2 : Nat) (x3 : Int32) (x4 : Int32) (x5 : Int32) (σ : Sto), Sim G mX10_runLaw 2 0 0 n0 jI 0 0 6 [(0, .ref x0), (2, .ref x2), (3, .int x3), (4, .int x4), (5, .int x5)] [] σ (K6 x0 x2 x3 x4 x5 σ)) : ∀ (x0 : Nat) (x2 : Nat) (x3 : Int32) (x4 : Int32) (x5 : Int32) (y0 : Nat) (y1 : Int32) (y2 : Int32) (σ : Sto), Sim G mX10_runLaw 2 0 0 n0 jI 0 0 78 [(0, .ref x0), (2, .ref x2), (3, .int x3), (4, .int x4), (5, .int x5)] [.int y2, .int y1, .ref y0] σ (fX10_runLaw_b78 K6 x0 x2 x3 x4 x5 y0 y1 y2 σ) := by
  intro x0 x2 x3 x4 x5 y0 y1 y2 σ
  unfold fX10_runLaw_b78
  refine hj_iast dX10_runLaw_78 (fun σ21 _ => ?_)
  refine hj_iinc (lv' := [(0, .ref x0), (2, .ref x2), (3, .int x3), (4, .int (x4 + (1 : Int32))), (5, .int x5)]) 3 (1 : Int32) dX10_runLaw_79 rfl (by decide) (by decide) [1, 2, 3, 0, 4] rfl ?_
  refine hj_goto 218 dX10_runLaw_82 (by decide) ?_
  refine hj_loc (lv' := [(0, .ref x0), (2, .ref x2), (3, .int x3), (4, .int (x4 + (1 : Int32))), (5, .int x5)]) [0, 1, 2, 3, 4] rfl ?_
  exact sX10_runLaw_b218 hK6 _ _ _ _ _ _
def fX10_runLaw_b43 (K6 : Nat → Nat → Int32 → Int32 → Int32 → Sto → Option (Int32 × Sto)) (x0 : Nat) (x2 : Nat) (x3 : Int32) (x4 : Int32) (x5 : Int32) (x6 : Int32) (σ : Sto) : Option (Int32 × Sto) := ((gR σ 10 x0 8).bind fun t14 => (if x6 = (1 : Int32) then ((gR σ 10 x0 7).bind fun t19 => ((aI σ 2 t19 x5).bind fun t20 => (fX10_runLaw_b78 K6 x0 x2 x3 x4 x5 t14 x4 t20 σ))) else ((gR σ 10 x0 7).bind fun t15 => ((aI σ 2 t15 x5).bind fun t16 => (cb (fX10_variable x0 t16 x2 x3 σ) fun r18 σ17 => (fX10_runLaw_b78 K6 x0 x2 x3 x4 x5 t14 x4 r18 σ17))))))
set_option maxHeartbeats 2000000 in
theorem sX10_runLaw_b43 {G : GP} {n0 : Nat} {K6 : Nat → Nat → Int32 → Int32 → Int32 → Sto → Option (Int32 × Sto)} (hK6 : ∀ (x0 : Nat) (x2 : Nat) (x3 : Int32) (x4 : Int32) (x5 : Int32) (σ : Sto), Sim G mX10_runLaw 2 0 0 n0 jI 0 0 6 [(0, .ref x0), (2, .ref x2), (3, .int x3), (4, .int x4), (5, .int x5)] [] σ (K6 x0 x2 x3 x4 x5 σ)) : ∀ (x0 : Nat) (x2 : Nat) (x3 : Int32) (x4 : Int32) (x5 : Int32) (x6 : Int32) (σ : Sto), Sim G mX10_runLaw 2 0 0 n0 jI 0 0 43 [(0, .ref x0), (2, .ref x2), (3, .int x3), (4, .int x4), (5, .int x5), (6, .int x6)] [] σ (fX10_runLaw_b43 K6 x0 x2 x3 x4 x5 x6 σ) := by
  intro x0 x2 x3 x4 x5 x6 σ
  unfold fX10_runLaw_b43
  refine hj_aload_n 0 dX10_runLaw_43 rfl ?_
  refine hj_getR flX10_38 dX10_runLaw_44 (fun t14 _ => ?_)
  refine hj_iload 3 dX10_runLaw_47 rfl ?_
  refine hj_iload 5 dX10_runLaw_49 rfl ?_
  refine hj_iconst (1 : Int32) dX10_runLaw_51 (by decide) ?_
  refine hj_icmp_ne 65 dX10_runLaw_52 (by decide) (fun _ => ?_) (fun _ => ?_)
  · refine hj_aload_n 0 dX10_runLaw_65 rfl ?_
    refine hj_aload_n 0 dX10_runLaw_66 rfl ?_
    refine hj_getR flX10_35 dX10_runLaw_67 (fun t15 _ => ?_)
    refine hj_iload 4 dX10_runLaw_70 rfl ?_
    refine hj_iald dX10_runLaw_72 (fun t16 _ => ?_)
    refine hj_aload_n 1 dX10_runLaw_73 rfl ?_
    refine hj_iload_n 2 dX10_runLaw_74 rfl ?_
    refine hj_callV (ci := 10) (M' := mX10_variable) (h' := 1) (As := [.int t16, .ref x2, .int x3]) mfX10_variable mvX10_variable ⟨_, _, rfl⟩ mlX10_81 dX10_runLaw_75 (kX10_variable G _ _ _ _ _) (fun _ hr => cX10_variablek hr) ⟨Nat.le_of_ble_eq_true rfl, Nat.le_of_ble_eq_true rfl⟩ ⟨Nat.le_refl _, Nat.le_refl _⟩ rfl (Nat.le_of_ble_eq_true rfl) (fun r18 σ17 _ => ?_)
    refine hj_loc (lv' := [(0, .ref x0), (2, .ref x2), (3, .int x3), (4, .int x4), (5, .int x5)]) [0, 1, 2, 3, 4] rfl ?_
    exact sX10_runLaw_b78 hK6 _ _ _ _ _ _ _ _ _
  · refine hj_aload_n 0 dX10_runLaw_55 rfl ?_
    refine hj_getR flX10_35 dX10_runLaw_56 (fun t19 _ => ?_)
    refine hj_iload 4 dX10_runLaw_59 rfl ?_
    refine hj_iald dX10_runLaw_61 (fun t20 _ => ?_)
    refine hj_goto 78 dX10_runLaw_62 (by decide) ?_
    refine hj_loc (lv' := [(0, .ref x0), (2, .ref x2), (3, .int x3), (4, .int x4), (5, .int x5)]) [0, 1, 2, 3, 4] rfl ?_
    exact sX10_runLaw_b78 hK6 _ _ _ _ _ _ _ _ _
def fX10_runLaw_b91 (x0 : Nat) (x4 : Int32) (σ : Sto) : Option (Int32 × Sto) := (if (1 : Int32) ≤ x4 then ((gR σ 10 x0 8).bind fun t22 => ((aI σ 2 t22 ((x4 - ((1 : Int32))))).bind fun t23 => (some (t23, σ)))) else (some ((0 : Int32), σ)))
set_option maxHeartbeats 2000000 in
theorem sX10_runLaw_b91 {G : GP} {n0 : Nat} : ∀ (x0 : Nat) (x4 : Int32) (σ : Sto), Sim G mX10_runLaw 2 0 0 n0 jI 0 0 91 [(0, .ref x0), (4, .int x4)] [] σ (fX10_runLaw_b91 x0 x4 σ) := by
  intro x0 x4 σ
  unfold fX10_runLaw_b91
  refine hj_iload 1 dX10_runLaw_91 rfl ?_
  refine hj_iconst (1 : Int32) dX10_runLaw_93 (by decide) ?_
  refine hj_icmp_ge 101 dX10_runLaw_94 (by decide) (fun _ => ?_) (fun _ => ?_)
  · refine hj_aload_n 0 dX10_runLaw_101 rfl ?_
    refine hj_getR flX10_38 dX10_runLaw_102 (fun t22 _ => ?_)
    refine hj_iload 1 dX10_runLaw_105 rfl ?_
    refine hj_iconst (1 : Int32) dX10_runLaw_107 (by decide) ?_
    refine hj_isub dX10_runLaw_108 ?_
    refine hj_iald dX10_runLaw_109 (fun t23 _ => ?_)
    exact hj_iret dX10_runLaw_110 rfl rfl (Nat.le_refl _)
  · refine hj_iconst (0 : Int32) dX10_runLaw_97 (by decide) ?_
    refine hj_goto 110 dX10_runLaw_98 (by decide) ?_
    exact hj_iret dX10_runLaw_110 rfl rfl (Nat.le_refl _)
def fX10_runLaw_b188 (K6 : Nat → Nat → Int32 → Int32 → Int32 → Sto → Option (Int32 × Sto)) (x0 : Nat) (x2 : Nat) (x3 : Int32) (x4 : Int32) (x5 : Int32) (x6 : Int32) (σ : Sto) : Option (Int32 × Sto) := ((gR σ 10 x0 8).bind fun t24 => ((gR σ 10 x0 8).bind fun t25 => ((aI σ 2 t25 ((x4 - ((1 : Int32))))).bind fun t26 => ((gR σ 10 x0 8).bind fun t27 => ((aI σ 2 t27 x4).bind fun t28 => (cb (fX10_reckon x6 t26 t28 σ) fun r30 σ29 => ((sI σ29 2 t24 ((x4 - ((1 : Int32)))) r30).bind fun σ31 => (fX10_runLaw_b218 K6 x0 x2 x3 x4 x5 σ31))))))))
set_option maxHeartbeats 2000000 in
theorem sX10_runLaw_b188 {G : GP} {n0 : Nat} {K6 : Nat → Nat → Int32 → Int32 → Int32 → Sto → Option (Int32 × Sto)} (hK6 : ∀ (x0 : Nat) (x2 : Nat) (x3 : Int32) (x4 : Int32) (x5 : Int32) (σ : Sto), Sim G mX10_runLaw 2 0 0 n0 jI 0 0 6 [(0, .ref x0), (2, .ref x2), (3, .int x3), (4, .int x4), (5, .int x5)] [] σ (K6 x0 x2 x3 x4 x5 σ)) : ∀ (x0 : Nat) (x2 : Nat) (x3 : Int32) (x4 : Int32) (x5 : Int32) (x6 : Int32) (σ : Sto), Sim G mX10_runLaw 2 0 0 n0 jI 0 0 188 [(0, .ref x0), (2, .ref x2), (3, .int x3), (4, .int x4), (5, .int x5), (6, .int x6)] [] σ (fX10_runLaw_b188 K6 x0 x2 x3 x4 x5 x6 σ) := by
  intro x0 x2 x3 x4 x5 x6 σ
  unfold fX10_runLaw_b188
  refine hj_aload_n 0 dX10_runLaw_188 rfl ?_
  refine hj_getR flX10_38 dX10_runLaw_189 (fun t24 _ => ?_)
  refine hj_iload 3 dX10_runLaw_192 rfl ?_
  refine hj_iconst (1 : Int32) dX10_runLaw_194 (by decide) ?_
  refine hj_isub dX10_runLaw_195 ?_
  refine hj_iload 5 dX10_runLaw_196 rfl ?_
  refine hj_aload_n 0 dX10_runLaw_198 rfl ?_
  refine hj_getR flX10_38 dX10_runLaw_199 (fun t25 _ => ?_)
  refine hj_iload 3 dX10_runLaw_202 rfl ?_
  refine hj_iconst (1 : Int32) dX10_runLaw_204 (by decide) ?_
  refine hj_isub dX10_runLaw_205 ?_
  refine hj_iald dX10_runLaw_206 (fun t26 _ => ?_)
  refine hj_aload_n 0 dX10_runLaw_207 rfl ?_
  refine hj_getR flX10_38 dX10_runLaw_208 (fun t27 _ => ?_)
  refine hj_iload 3 dX10_runLaw_211 rfl ?_
  refine hj_iald dX10_runLaw_213 (fun t28 _ => ?_)
  refine hj_callS (M' := mX10_reckon) (h' := 1) (As := [.int x6, .int t26, .int t28]) mfX10_reckon msX10_reckon mlX10_84 dX10_runLaw_214 (kX10_reckon G _ _ _ _) ⟨Nat.le_of_ble_eq_true rfl, Nat.le_of_ble_eq_true rfl⟩ ⟨Nat.le_refl _, Nat.le_refl _⟩ rfl (Nat.le_of_ble_eq_true rfl) (fun r30 σ29 _ => ?_)
  refine hj_iast dX10_runLaw_217 (fun σ31 _ => ?_)
  refine hj_loc (lv' := [(0, .ref x0), (2, .ref x2), (3, .int x3), (4, .int x4), (5, .int x5)]) [0, 1, 2, 3, 4] rfl ?_
  exact sX10_runLaw_b218 hK6 _ _ _ _ _ _
def fX10_runLaw_b6 : Nat → Nat → Nat → Int32 → Int32 → Int32 → Sto → Option (Int32 × Sto)
  | 0, _, _, _, _, _, _ => none
  | n + 1, x0, x2, x3, x4, x5, σ => ((gI σ 10 x0 5).bind fun t1 => (if t1 ≤ x5 then (some ((0 : Int32), σ)) else (if (40 : Int32) ≤ x4 then (some ((0 : Int32), σ)) else ((gR σ 10 x0 6).bind fun t2 => ((aI σ 2 t2 x5).bind fun t3 => (if t3 = (1 : Int32) then (fX10_runLaw_b43 (fX10_runLaw_b6 n) x0 x2 x3 x4 x5 t3 σ) else (if t3 = (2 : Int32) then (fX10_runLaw_b43 (fX10_runLaw_b6 n) x0 x2 x3 x4 x5 t3 σ) else (if t3 = (4 : Int32) then (fX10_runLaw_b91 x0 x4 σ) else (if (2 : Int32) ≤ x4 then (if t3 = (3 : Int32) then ((gR σ 10 x0 8).bind fun t6 => ((aI σ 2 t6 (x4 + (-2 : Int32))).bind fun t7 => ((gR σ 10 x0 8).bind fun t8 => ((aI σ 2 t8 (((x4 + (-2 : Int32)) + ((1 : Int32))))).bind fun t9 => (if t7 < t9 then (fX10_runLaw_b218 (fX10_runLaw_b6 n) x0 x2 x3 (x4 + (-2 : Int32)) x5 σ) else ((gR σ 10 x0 7).bind fun t10 => ((aI σ 2 t10 x5).bind fun t11 => (cb (fJ9_max_7cf53 x5 ((t11 - ((1 : Int32)))) σ) fun r13 σ12 => (fX10_runLaw_b218 (fX10_runLaw_b6 n) x0 x2 x3 (x4 + (-2 : Int32)) r13 σ12))))))))) else (if t3 = (47 : Int32) then ((gR σ 10 x0 8).bind fun t4 => ((aI σ 2 t4 (x4 + (-1 : Int32))).bind fun t5 => (if t5 = 0 then (some ((0 : Int32), σ)) else (fX10_runLaw_b188 (fX10_runLaw_b6 n) x0 x2 x3 (x4 + (-1 : Int32)) x5 t3 σ)))) else (fX10_runLaw_b188 (fX10_runLaw_b6 n) x0 x2 x3 (x4 + (-1 : Int32)) x5 t3 σ))) else (some ((0 : Int32), σ)))))))))))
set_option maxHeartbeats 2000000 in
theorem sX10_runLaw_b6 {G : GP} {n0 : Nat} : ∀ (n : Nat) (x0 : Nat) (x2 : Nat) (x3 : Int32) (x4 : Int32) (x5 : Int32) (σ : Sto), Sim G mX10_runLaw 2 0 0 n0 jI 0 0 6 [(0, .ref x0), (2, .ref x2), (3, .int x3), (4, .int x4), (5, .int x5)] [] σ (fX10_runLaw_b6 n x0 x2 x3 x4 x5 σ) := by
  intro n
  induction n with
  | zero => intros; rw [fX10_runLaw_b6]; exact hj_none
  | succ n ih =>
    intro x0 x2 x3 x4 x5 σ
    rw [fX10_runLaw_b6]
    refine hj_iload 4 dX10_runLaw_6 rfl ?_
    refine hj_aload_n 0 dX10_runLaw_8 rfl ?_
    refine hj_getI flX10_29 dX10_runLaw_9 (fun t1 _ => ?_)
    refine hj_icmp_ge 224 dX10_runLaw_12 (by decide) (fun _ => ?_) (fun _ => ?_)
    · refine hj_iconst (0 : Int32) dX10_runLaw_224 (by decide) ?_
      exact hj_iret dX10_runLaw_225 rfl rfl (Nat.le_refl _)
    · refine hj_iload 3 dX10_runLaw_15 rfl ?_
      refine hj_bipush (40 : Int32) dX10_runLaw_17 (by decide) ?_
      refine hj_icmp_ge 224 dX10_runLaw_19 (by decide) (fun _ => ?_) (fun _ => ?_)
      · refine hj_iconst (0 : Int32) dX10_runLaw_224 (by decide) ?_
        exact hj_iret dX10_runLaw_225 rfl rfl (Nat.le_refl _)
      · refine hj_aload_n 0 dX10_runLaw_22 rfl ?_
        refine hj_getR flX10_32 dX10_runLaw_23 (fun t2 _ => ?_)
        refine hj_iload 4 dX10_runLaw_26 rfl ?_
        refine hj_iald dX10_runLaw_28 (fun t3 _ => ?_)
        refine hj_istore (lv' := [(0, .ref x0), (2, .ref x2), (3, .int x3), (4, .int x4), (5, .int x5), (6, .int t3)]) dX10_runLaw_29 (by decide) [1, 2, 3, 4, 5, 0] rfl ?_
        refine hj_iload 5 dX10_runLaw_31 rfl ?_
        refine hj_iconst (1 : Int32) dX10_runLaw_33 (by decide) ?_
        refine hj_icmp_eq 43 dX10_runLaw_34 (by decide) (fun _ => ?_) (fun _ => ?_)
        · refine hj_loc (lv' := [(0, .ref x0), (2, .ref x2), (3, .int x3), (4, .int x4), (5, .int x5), (6, .int t3)]) [0, 1, 2, 3, 4, 5] rfl ?_
          exact sX10_runLaw_b43 ih _ _ _ _ _ _ _
        · refine hj_iload 5 dX10_runLaw_37 rfl ?_
          refine hj_iconst (2 : Int32) dX10_runLaw_39 (by decide) ?_
          refine hj_icmp_ne 85 dX10_runLaw_40 (by decide) (fun _ => ?_) (fun _ => ?_)
          · refine hj_iload 5 dX10_runLaw_85 rfl ?_
            refine hj_iconst (4 : Int32) dX10_runLaw_87 (by decide) ?_
            refine hj_icmp_ne 111 dX10_runLaw_88 (by decide) (fun _ => ?_) (fun _ => ?_)
            · refine hj_iload 3 dX10_runLaw_111 rfl ?_
              refine hj_iconst (2 : Int32) dX10_runLaw_113 (by decide) ?_
              refine hj_icmp_ge 119 dX10_runLaw_114 (by decide) (fun _ => ?_) (fun _ => ?_)
              · refine hj_iload 5 dX10_runLaw_119 rfl ?_
                refine hj_iconst (3 : Int32) dX10_runLaw_121 (by decide) ?_
                refine hj_icmp_ne 166 dX10_runLaw_122 (by decide) (fun _ => ?_) (fun _ => ?_)
                · refine hj_iinc (lv' := [(0, .ref x0), (2, .ref x2), (3, .int x3), (4, .int (x4 + (-1 : Int32))), (5, .int x5), (6, .int t3)]) 3 (-1 : Int32) dX10_runLaw_166 rfl (by decide) (by decide) [1, 2, 3, 0, 4, 5] rfl ?_
                  refine hj_iload 5 dX10_runLaw_169 rfl ?_
                  refine hj_bipush (47 : Int32) dX10_runLaw_171 (by decide) ?_
                  refine hj_icmp_ne 188 dX10_runLaw_173 (by decide) (fun _ => ?_) (fun _ => ?_)
                  · refine hj_loc (lv' := [(0, .ref x0), (2, .ref x2), (3, .int x3), (4, .int (x4 + (-1 : Int32))), (5, .int x5), (6, .int t3)]) [0, 1, 2, 3, 4, 5] rfl ?_
                    exact sX10_runLaw_b188 ih _ _ _ _ _ _ _
                  · refine hj_aload_n 0 dX10_runLaw_176 rfl ?_
                    refine hj_getR flX10_38 dX10_runLaw_177 (fun t4 _ => ?_)
                    refine hj_iload 3 dX10_runLaw_180 rfl ?_
                    refine hj_iald dX10_runLaw_182 (fun t5 _ => ?_)
                    refine hj_if_ne 188 dX10_runLaw_183 (by decide) (fun _ => ?_) (fun _ => ?_)
                    · refine hj_loc (lv' := [(0, .ref x0), (2, .ref x2), (3, .int x3), (4, .int (x4 + (-1 : Int32))), (5, .int x5), (6, .int t3)]) [0, 1, 2, 3, 4, 5] rfl ?_
                      exact sX10_runLaw_b188 ih _ _ _ _ _ _ _
                    · refine hj_iconst (0 : Int32) dX10_runLaw_186 (by decide) ?_
                      exact hj_iret dX10_runLaw_187 rfl rfl (Nat.le_refl _)
                · refine hj_iinc (lv' := [(0, .ref x0), (2, .ref x2), (3, .int x3), (4, .int (x4 + (-2 : Int32))), (5, .int x5), (6, .int t3)]) 3 (-2 : Int32) dX10_runLaw_125 rfl (by decide) (by decide) [1, 2, 3, 0, 4, 5] rfl ?_
                  refine hj_aload_n 0 dX10_runLaw_128 rfl ?_
                  refine hj_getR flX10_38 dX10_runLaw_129 (fun t6 _ => ?_)
                  refine hj_iload 3 dX10_runLaw_132 rfl ?_
                  refine hj_iald dX10_runLaw_134 (fun t7 _ => ?_)
                  refine hj_aload_n 0 dX10_runLaw_135 rfl ?_
                  refine hj_getR flX10_38 dX10_runLaw_136 (fun t8 _ => ?_)
                  refine hj_iload 3 dX10_runLaw_139 rfl ?_
                  refine hj_iconst (1 : Int32) dX10_runLaw_141 (by decide) ?_
                  refine hj_iadd dX10_runLaw_142 ?_
                  refine hj_iald dX10_runLaw_143 (fun t9 _ => ?_)
                  refine hj_icmp_lt 218 dX10_runLaw_144 (by decide) (fun _ => ?_) (fun _ => ?_)
                  · refine hj_loc (lv' := [(0, .ref x0), (2, .ref x2), (3, .int x3), (4, .int (x4 + (-2 : Int32))), (5, .int x5)]) [0, 1, 2, 3, 4] rfl ?_
                    exact sX10_runLaw_b218 ih _ _ _ _ _ _
                  · refine hj_iload 4 dX10_runLaw_147 rfl ?_
                    refine hj_aload_n 0 dX10_runLaw_149 rfl ?_
                    refine hj_getR flX10_35 dX10_runLaw_150 (fun t10 _ => ?_)
                    refine hj_iload 4 dX10_runLaw_153 rfl ?_
                    refine hj_iald dX10_runLaw_155 (fun t11 _ => ?_)
                    refine hj_iconst (1 : Int32) dX10_runLaw_156 (by decide) ?_
                    refine hj_isub dX10_runLaw_157 ?_
                    refine hj_callS (M' := mJ9_max_7cf53) (h' := 1) (As := [.int x5, .int ((t11 - ((1 : Int32))))]) mfJ9_max_7cf53 msJ9_max_7cf53 mlX10_78 dX10_runLaw_158 (kJ9_max_7cf53 G _ _ _) ⟨Nat.le_of_ble_eq_true rfl, Nat.le_of_ble_eq_true rfl⟩ ⟨Nat.le_refl _, Nat.le_refl _⟩ rfl (Nat.le_of_ble_eq_true rfl) (fun r13 σ12 _ => ?_)
                    refine hj_istore (lv' := [(0, .ref x0), (2, .ref x2), (3, .int x3), (4, .int (x4 + (-2 : Int32))), (5, .int r13), (6, .int t3)]) dX10_runLaw_161 (by decide) [1, 2, 3, 4, 0, 5] rfl ?_
                    refine hj_goto 218 dX10_runLaw_163 (by decide) ?_
                    refine hj_loc (lv' := [(0, .ref x0), (2, .ref x2), (3, .int x3), (4, .int (x4 + (-2 : Int32))), (5, .int r13)]) [0, 1, 2, 3, 4] rfl ?_
                    exact sX10_runLaw_b218 ih _ _ _ _ _ _
              · refine hj_iconst (0 : Int32) dX10_runLaw_117 (by decide) ?_
                exact hj_iret dX10_runLaw_118 rfl rfl (Nat.le_refl _)
            · refine hj_loc (lv' := [(0, .ref x0), (4, .int x4)]) [0, 3] rfl ?_
              exact sX10_runLaw_b91 _ _ _
          · refine hj_loc (lv' := [(0, .ref x0), (2, .ref x2), (3, .int x3), (4, .int x4), (5, .int x5), (6, .int t3)]) [0, 1, 2, 3, 4, 5] rfl ?_
            exact sX10_runLaw_b43 ih _ _ _ _ _ _ _
def fX10_runLaw (a0 : Nat) (a1 : Int32) (a2 : Nat) (a3 : Int32) (σ : Sto) : Option (Int32 × Sto) := ck σ 10 a0 (fX10_runLaw_b6 FU a0 a2 a3 ((0 : Int32)) a1 σ)
set_option maxHeartbeats 2000000 in
theorem kX10_runLaw (G : GP) (a0 : Nat) (a1 : Int32) (a2 : Nat) (a3 : Int32) (σ : Sto) : Me G mX10_runLaw 2 0 0 jI [.ref a0, .int a1, .ref a2, .int a3] σ (fX10_runLaw a0 a1 a2 a3 σ) := by
  refine hs_me (lv := [(0, .ref a0), (1, .int a1), (2, .ref a2), (3, .int a3)]) (plainFor_of_name (by decide +kernel)) (Nat.le_of_ble_eq_true rfl) rfl ?_
  unfold fX10_runLaw
  refine hj_ck ?_
  refine hj_iconst (0 : Int32) dX10_runLaw_0 (by decide) ?_
  refine hj_istore (lv' := [(0, .ref a0), (1, .int a1), (2, .ref a2), (3, .int a3), (4, .int (0 : Int32))]) dX10_runLaw_1 (by decide) [1, 2, 3, 4, 0] rfl ?_
  refine hj_iload_n 1 dX10_runLaw_3 rfl ?_
  refine hj_istore (lv' := [(0, .ref a0), (1, .int a1), (2, .ref a2), (3, .int a3), (4, .int (0 : Int32)), (5, .int a1)]) dX10_runLaw_4 (by decide) [1, 2, 3, 4, 5, 0] rfl ?_
  refine hj_loc (lv' := [(0, .ref a0), (2, .ref a2), (3, .int a3), (4, .int (0 : Int32)), (5, .int a1)]) [0, 2, 3, 4, 5] rfl ?_
  exact sX10_runLaw_b6 _ _ _ _ _ _ _
theorem cX10_runLawk {a0 : Nat} {a1 : Int32} {a2 : Nat} {a3 : Int32} {σ : Sto} {r : Int32 × Sto} (h : fX10_runLaw a0 a1 a2 a3 σ = some r) : ∃ fs, hs_o σ 10 a0 = some fs := (ck_of h).1
def fX10_weighs (a0 : Nat) (a1 : Nat) (a2 : Int32) (σ : Sto) : Option (Int32 × Sto) := ck σ 10 a0 ((gR σ 5 a1 1).bind fun t1 => ((aI σ 2 t1 a2).bind fun t2 => ((gR σ 10 a0 4).bind fun t3 => ((aI σ 2 t3 t2).bind fun t4 => (if t4 = (-1 : Int32) then ((gR σ 10 a0 3).bind fun t13 => ((aI σ 2 t13 t2).bind fun t14 => (some (t14, σ)))) else ((gR σ 10 a0 4).bind fun t5 => ((aI σ 2 t5 t2).bind fun t6 => (cb (fX10_runLaw a0 t6 a1 a2 σ) fun r8 σ7 => (cb (fJ9_min_7cf53 ((99 : Int32)) r8 σ7) fun r10 σ9 => (cb (fJ9_max_7cf53 ((1 : Int32)) r10 σ9) fun r12 σ11 => (some (r12, σ11))))))))))))
set_option maxHeartbeats 2000000 in
theorem kX10_weighs (G : GP) (a0 : Nat) (a1 : Nat) (a2 : Int32) (σ : Sto) : Me G mX10_weighs 3 0 0 jI [.ref a0, .ref a1, .int a2] σ (fX10_weighs a0 a1 a2 σ) := by
  refine hs_me (lv := [(0, .ref a0), (1, .ref a1), (2, .int a2)]) (plainFor_of_name (by decide +kernel)) (Nat.le_of_ble_eq_true rfl) rfl ?_
  unfold fX10_weighs
  refine hj_ck ?_
  refine hj_aload_n 1 dX10_weighs_0 rfl ?_
  refine hj_getR flX10_66 dX10_weighs_1 (fun t1 _ => ?_)
  refine hj_iload_n 2 dX10_weighs_4 rfl ?_
  refine hj_iald dX10_weighs_5 (fun t2 _ => ?_)
  refine hj_istore_n (lv' := [(0, .ref a0), (1, .ref a1), (2, .int a2), (3, .int t2)]) dX10_weighs_6 (by decide) [1, 2, 3, 0] rfl ?_
  refine hj_aload_n 0 dX10_weighs_7 rfl ?_
  refine hj_getR flX10_26 dX10_weighs_8 (fun t3 _ => ?_)
  refine hj_iload_n 3 dX10_weighs_11 rfl ?_
  refine hj_iald dX10_weighs_12 (fun t4 _ => ?_)
  refine hj_iconst (-1 : Int32) dX10_weighs_13 (by decide) ?_
  refine hj_icmp_ne 24 dX10_weighs_14 (by decide) (fun _ => ?_) (fun _ => ?_)
  · refine hj_iconst (1 : Int32) dX10_weighs_24 (by decide) ?_
    refine hj_bipush (99 : Int32) dX10_weighs_25 (by decide) ?_
    refine hj_aload_n 0 dX10_weighs_27 rfl ?_
    refine hj_aload_n 0 dX10_weighs_28 rfl ?_
    refine hj_getR flX10_26 dX10_weighs_29 (fun t5 _ => ?_)
    refine hj_iload_n 3 dX10_weighs_32 rfl ?_
    refine hj_iald dX10_weighs_33 (fun t6 _ => ?_)
    refine hj_aload_n 1 dX10_weighs_34 rfl ?_
    refine hj_iload_n 2 dX10_weighs_35 rfl ?_
    refine hj_callV (ci := 10) (M' := mX10_runLaw) (h' := 2) (As := [.int t6, .ref a1, .int a2]) mfX10_runLaw mvX10_runLaw ⟨_, _, rfl⟩ mlX10_68 dX10_weighs_36 (kX10_runLaw G _ _ _ _ _) (fun _ hr => cX10_runLawk hr) ⟨Nat.le_of_ble_eq_true rfl, Nat.le_of_ble_eq_true rfl⟩ ⟨Nat.le_refl _, Nat.le_refl _⟩ rfl (Nat.le_of_ble_eq_true rfl) (fun r8 σ7 _ => ?_)
    refine hj_callS (M' := mJ9_min_7cf53) (h' := 1) (As := [.int ((99 : Int32)), .int r8]) mfJ9_min_7cf53 msJ9_min_7cf53 mlX10_72 dX10_weighs_39 (kJ9_min_7cf53 G _ _ _) ⟨Nat.le_of_ble_eq_true rfl, Nat.le_of_ble_eq_true rfl⟩ ⟨Nat.le_refl _, Nat.le_refl _⟩ rfl (Nat.le_of_ble_eq_true rfl) (fun r10 σ9 _ => ?_)
    refine hj_callS (M' := mJ9_max_7cf53) (h' := 1) (As := [.int ((1 : Int32)), .int r10]) mfJ9_max_7cf53 msJ9_max_7cf53 mlX10_78 dX10_weighs_42 (kJ9_max_7cf53 G _ _ _) ⟨Nat.le_of_ble_eq_true rfl, Nat.le_of_ble_eq_true rfl⟩ ⟨Nat.le_refl _, Nat.le_refl _⟩ rfl (Nat.le_of_ble_eq_true rfl) (fun r12 σ11 _ => ?_)
    exact hj_iret dX10_weighs_45 rfl rfl (Nat.le_refl _)
  · refine hj_aload_n 0 dX10_weighs_17 rfl ?_
    refine hj_getR flX10_23 dX10_weighs_18 (fun t13 _ => ?_)
    refine hj_iload_n 3 dX10_weighs_21 rfl ?_
    refine hj_iald dX10_weighs_22 (fun t14 _ => ?_)
    exact hj_iret dX10_weighs_23 rfl rfl (Nat.le_refl _)
theorem cX10_weighsk {a0 : Nat} {a1 : Nat} {a2 : Int32} {σ : Sto} {r : Int32 × Sto} (h : fX10_weighs a0 a1 a2 σ = some r) : ∃ fs, hs_o σ 10 a0 = some fs := (ck_of h).1
def fX0_weigh_b26 : Nat → Nat → Int32 → Int32 → Int32 → Sto → Option (Unit × Sto)
  | 0, _, _, _, _, _ => none
  | n + 1, x0, x3, x4, x5, σ => (if x5 < 0 then (some ((), σ)) else ((gR σ 0 x0 0).bind fun t1 => ((gR σ 0 x0 1).bind fun t2 => (cb (fX10_weighs t1 t2 x5 σ) fun r4 σ3 => ((gR σ3 0 x0 0).bind fun t5 => ((gR σ3 10 t5 12).bind fun t6 => ((gR σ3 0 x0 1).bind fun t7 => ((gR σ3 5 t7 1).bind fun t8 => ((aI σ3 2 t8 x5).bind fun t9 => ((aI σ3 2 t6 t9).bind fun t10 => (lt ((x3 + ((r4 + t10)))) fun v11 => ((gR σ3 0 x0 1).bind fun t12 => ((gR σ3 0 x0 0).bind fun t13 => (cb (fX5_twiceMiddle t12 t13 x5 σ3) fun r15 σ14 => ((gR σ14 0 x0 1).bind fun t16 => ((gR σ14 0 x0 0).bind fun t17 => (cb (fX5_twiceFlyTurn t16 t17 x5 σ14) fun r19 σ18 => (lt ((x4 + ((((r4 * r15)) + r19)))) fun v20 => ((gR σ18 0 x0 2).bind fun t21 => ((sI σ18 2 t21 x5 v11).bind fun σ22 => ((gR σ22 0 x0 3).bind fun t23 => ((sI σ22 2 t23 x5 v20).bind fun σ24 => (fX0_weigh_b26 n x0 v11 v20 (x5 + (-1 : Int32)) σ24)))))))))))))))))))))))
set_option maxHeartbeats 2000000 in
theorem sX0_weigh_b26 {G : GP} {n0 : Nat} : ∀ (n : Nat) (x0 : Nat) (x3 : Int32) (x4 : Int32) (x5 : Int32) (σ : Sto), Sim G mX0_weigh 4 0 0 n0 jV 0 0 26 [(0, .ref x0), (3, .int x3), (4, .int x4), (5, .int x5)] [] σ (fX0_weigh_b26 n x0 x3 x4 x5 σ) := by
  intro n
  induction n with
  | zero => intros; rw [fX0_weigh_b26]; exact hj_none
  | succ n ih =>
    intro x0 x3 x4 x5 σ
    rw [fX0_weigh_b26]
    refine hj_iload 3 dX0_weigh_26 rfl ?_
    refine hj_if_lt 128 dX0_weigh_28 (by decide) (fun _ => ?_) (fun _ => ?_)
    · exact hj_vret dX0_weigh_128 rfl rfl (Nat.le_refl _)
    · refine hj_aload_n 0 dX0_weigh_31 rfl ?_
      refine hj_getR flX0_25 dX0_weigh_32 (fun t1 _ => ?_)
      refine hj_aload_n 0 dX0_weigh_35 rfl ?_
      refine hj_getR flX0_29 dX0_weigh_36 (fun t2 _ => ?_)
      refine hj_iload 3 dX0_weigh_39 rfl ?_
      refine hj_callV (ci := 10) (M' := mX10_weighs) (h' := 3) (As := [.ref t2, .int x5]) mfX10_weighs mvX10_weighs ⟨_, _, rfl⟩ mlX0_38 dX0_weigh_41 (kX10_weighs G _ _ _ _) (fun _ hr => cX10_weighsk hr) ⟨Nat.le_of_ble_eq_true rfl, Nat.le_of_ble_eq_true rfl⟩ ⟨Nat.le_refl _, Nat.le_refl _⟩ rfl (Nat.le_of_ble_eq_true rfl) (fun r4 σ3 _ => ?_)
      refine hj_istore (lv' := [(0, .ref x0), (3, .int x3), (4, .int x4), (5, .int x5), (6, .int r4)]) dX0_weigh_44 (by decide) [1, 2, 3, 4, 0] rfl ?_
      refine hj_iload_n 1 dX0_weigh_46 rfl ?_
      refine hj_iload 4 dX0_weigh_47 rfl ?_
      refine hj_aload_n 0 dX0_weigh_49 rfl ?_
      refine hj_getR flX0_25 dX0_weigh_50 (fun t5 _ => ?_)
      refine hj_getR flX0_44 dX0_weigh_53 (fun t6 _ => ?_)
      refine hj_aload_n 0 dX0_weigh_56 rfl ?_
      refine hj_getR flX0_29 dX0_weigh_57 (fun t7 _ => ?_)
      refine hj_getR flX0_47 dX0_weigh_60 (fun t8 _ => ?_)
      refine hj_iload 3 dX0_weigh_63 rfl ?_
      refine hj_iald dX0_weigh_65 (fun t9 _ => ?_)
      refine hj_iald dX0_weigh_66 (fun t10 _ => ?_)
      refine hj_iadd dX0_weigh_67 ?_
      refine hj_iadd dX0_weigh_68 ?_
      refine hj_ltI (fun v11 _ => ?_)
      refine hj_istore_n (lv' := [(0, .ref x0), (3, .int v11), (4, .int x4), (5, .int x5), (6, .int r4)]) dX0_weigh_69 (by decide) [1, 0, 2, 3, 4] rfl ?_
      refine hj_iload 2 dX0_weigh_70 rfl ?_
      refine hj_iload 4 dX0_weigh_72 rfl ?_
      refine hj_aload_n 0 dX0_weigh_74 rfl ?_
      refine hj_getR flX0_29 dX0_weigh_75 (fun t12 _ => ?_)
      refine hj_aload_n 0 dX0_weigh_78 rfl ?_
      refine hj_getR flX0_25 dX0_weigh_79 (fun t13 _ => ?_)
      refine hj_iload 3 dX0_weigh_82 rfl ?_
      refine hj_callV (ci := 5) (M' := mX5_twiceMiddle) (h' := 2) (As := [.ref t13, .int x5]) mfX5_twiceMiddle mvX5_twiceMiddle ⟨_, _, rfl⟩ mlX0_50 dX0_weigh_84 (kX5_twiceMiddle G _ _ _ _) (fun _ hr => cX5_twiceMiddlek hr) ⟨Nat.le_of_ble_eq_true rfl, Nat.le_of_ble_eq_true rfl⟩ ⟨Nat.le_refl _, Nat.le_refl _⟩ rfl (Nat.le_of_ble_eq_true rfl) (fun r15 σ14 _ => ?_)
      refine hj_imul dX0_weigh_87 ?_
      refine hj_aload_n 0 dX0_weigh_88 rfl ?_
      refine hj_getR flX0_29 dX0_weigh_89 (fun t16 _ => ?_)
      refine hj_aload_n 0 dX0_weigh_92 rfl ?_
      refine hj_getR flX0_25 dX0_weigh_93 (fun t17 _ => ?_)
      refine hj_iload 3 dX0_weigh_96 rfl ?_
      refine hj_callV (ci := 5) (M' := mX5_twiceFlyTurn) (h' := 1) (As := [.ref t17, .int x5]) mfX5_twiceFlyTurn mvX5_twiceFlyTurn ⟨_, _, rfl⟩ mlX0_54 dX0_weigh_98 (kX5_twiceFlyTurn G _ _ _ _) (fun _ hr => cX5_twiceFlyTurnk hr) ⟨Nat.le_of_ble_eq_true rfl, Nat.le_of_ble_eq_true rfl⟩ ⟨Nat.le_refl _, Nat.le_refl _⟩ rfl (Nat.le_of_ble_eq_true rfl) (fun r19 σ18 _ => ?_)
      refine hj_iadd dX0_weigh_101 ?_
      refine hj_iadd dX0_weigh_102 ?_
      refine hj_ltI (fun v20 _ => ?_)
      refine hj_istore (lv' := [(0, .ref x0), (3, .int v11), (4, .int v20), (5, .int x5), (6, .int r4)]) dX0_weigh_103 (by decide) [1, 2, 0, 3, 4] rfl ?_
      refine hj_aload_n 0 dX0_weigh_105 rfl ?_
      refine hj_getR flX0_9 dX0_weigh_106 (fun t21 _ => ?_)
      refine hj_iload 3 dX0_weigh_109 rfl ?_
      refine hj_iload_n 1 dX0_weigh_111 rfl ?_
      refine hj_iast dX0_weigh_112 (fun σ22 _ => ?_)
      refine hj_aload_n 0 dX0_weigh_113 rfl ?_
      refine hj_getR flX0_15 dX0_weigh_114 (fun t23 _ => ?_)
      refine hj_iload 3 dX0_weigh_117 rfl ?_
      refine hj_iload 2 dX0_weigh_119 rfl ?_
      refine hj_iast dX0_weigh_121 (fun σ24 _ => ?_)
      refine hj_iinc (lv' := [(0, .ref x0), (3, .int v11), (4, .int v20), (5, .int (x5 + (-1 : Int32))), (6, .int r4)]) 3 (-1 : Int32) dX0_weigh_122 rfl (by decide) (by decide) [1, 2, 3, 0, 4] rfl ?_
      refine hj_goto 26 dX0_weigh_125 (by decide) ?_
      refine hj_loc (lv' := [(0, .ref x0), (3, .int v11), (4, .int v20), (5, .int (x5 + (-1 : Int32)))]) [0, 1, 2, 3] rfl ?_
      exact ih _ _ _ _ _
def fX0_weigh (a0 : Nat) (a1 : Nat) (a2 : Nat) (σ : Sto) : Option (Unit × Sto) := ck σ 0 a0 ((pV σ 0 a0 0 (.ref a1)).bind fun σ25 => ((pV σ25 0 a0 1 (.ref a2)).bind fun σ26 => ((gR σ26 0 a0 1).bind fun t27 => ((gI σ26 5 t27 0).bind fun t28 => (lt ((t28 - ((1 : Int32)))) fun v29 => (fX0_weigh_b26 FU a0 ((0 : Int32)) ((0 : Int32)) v29 σ26))))))
set_option maxHeartbeats 2000000 in
theorem kX0_weigh (G : GP) (a0 : Nat) (a1 : Nat) (a2 : Nat) (σ : Sto) : Me G mX0_weigh 4 0 0 jV [.ref a0, .ref a1, .ref a2] σ (fX0_weigh a0 a1 a2 σ) := by
  refine hs_me (lv := [(0, .ref a0), (1, .ref a1), (2, .ref a2)]) (plainFor_of_name (by decide +kernel)) (Nat.le_of_ble_eq_true rfl) rfl ?_
  unfold fX0_weigh
  refine hj_ck ?_
  refine hj_aload_n 0 dX0_weigh_0 rfl ?_
  refine hj_aload_n 1 dX0_weigh_1 rfl ?_
  refine hj_put (fpX0_25 _) (fun _ => rfl) (fun _ => rfl) dX0_weigh_2 (fun σ25 _ => ?_)
  refine hj_aload_n 0 dX0_weigh_5 rfl ?_
  refine hj_aload_n 2 dX0_weigh_6 rfl ?_
  refine hj_put (fpX0_29 _) (fun _ => rfl) (fun _ => rfl) dX0_weigh_7 (fun σ26 _ => ?_)
  refine hj_iconst (0 : Int32) dX0_weigh_10 (by decide) ?_
  refine hj_istore_n (lv' := [(0, .ref a0), (1, .ref a1), (2, .ref a2), (3, .int (0 : Int32))]) dX0_weigh_11 (by decide) [1, 2, 3, 0] rfl ?_
  refine hj_iconst (0 : Int32) dX0_weigh_12 (by decide) ?_
  refine hj_istore (lv' := [(0, .ref a0), (1, .ref a1), (2, .ref a2), (3, .int (0 : Int32)), (4, .int (0 : Int32))]) dX0_weigh_13 (by decide) [1, 2, 3, 4, 0] rfl ?_
  refine hj_aload_n 0 dX0_weigh_15 rfl ?_
  refine hj_getR flX0_29 dX0_weigh_16 (fun t27 _ => ?_)
  refine hj_getI flX0_33 dX0_weigh_19 (fun t28 _ => ?_)
  refine hj_iconst (1 : Int32) dX0_weigh_22 (by decide) ?_
  refine hj_isub dX0_weigh_23 ?_
  refine hj_ltI (fun v29 _ => ?_)
  refine hj_istore (lv' := [(0, .ref a0), (1, .ref a1), (2, .ref a2), (3, .int (0 : Int32)), (4, .int (0 : Int32)), (5, .int v29)]) dX0_weigh_24 (by decide) [1, 2, 3, 4, 5, 0] rfl ?_
  refine hj_loc (lv' := [(0, .ref a0), (3, .int (0 : Int32)), (4, .int (0 : Int32)), (5, .int v29)]) [0, 3, 4, 5] rfl ?_
  exact sX0_weigh_b26 _ _ _ _ _ _
theorem cX0_weighk {a0 : Nat} {a1 : Nat} {a2 : Nat} {σ : Sto} {r : Unit × Sto} (h : fX0_weigh a0 a1 a2 σ = some r) : ∃ fs, hs_o σ 0 a0 = some fs := (ck_of h).1
def fX0_levelStands (a0 : Nat) (a1 : Int32) (σ : Sto) : Option (Int32 × Sto) := ck σ 0 a0 ((gR σ 0 a0 1).bind fun t1 => (cb (fX5_isHeldByGlue t1 a1 σ) fun r3 σ2 => (if r3 = 0 then ((gR σ2 0 a0 2).bind fun t4 => ((aI σ2 2 t4 a1).bind fun t5 => (lt ((((2 : Int32)) * t5)) fun v6 => ((gR σ2 0 a0 1).bind fun t7 => ((gR σ2 0 a0 0).bind fun t8 => (cb (fX5_restLeft t7 t8 a1 σ2) fun r10 σ9 => ((gR σ9 0 a0 3).bind fun t11 => ((aI σ9 2 t11 a1).bind fun t12 => (if t12 < (r10 * v6) then (some ((0 : Int32), σ9)) else ((gR σ9 0 a0 3).bind fun t13 => ((aI σ9 2 t13 a1).bind fun t14 => ((gR σ9 0 a0 1).bind fun t15 => ((gR σ9 0 a0 0).bind fun t16 => (cb (fX5_restRight t15 t16 a1 σ9) fun r18 σ17 => (if (r18 * v6) < t14 then (some ((0 : Int32), σ17)) else (some ((1 : Int32), σ17))))))))))))))))) else (some ((1 : Int32), σ2)))))
set_option maxHeartbeats 2000000 in
theorem kX0_levelStands (G : GP) (a0 : Nat) (a1 : Int32) (σ : Sto) : Me G mX0_levelStands 3 0 0 jI [.ref a0, .int a1] σ (fX0_levelStands a0 a1 σ) := by
  refine hs_me (lv := [(0, .ref a0), (1, .int a1)]) (plainFor_of_name (by decide +kernel)) (Nat.le_of_ble_eq_true rfl) rfl ?_
  unfold fX0_levelStands
  refine hj_ck ?_
  refine hj_aload_n 0 dX0_levelStands_0 rfl ?_
  refine hj_getR flX0_29 dX0_levelStands_1 (fun t1 _ => ?_)
  refine hj_iload_n 1 dX0_levelStands_4 rfl ?_
  refine hj_callV (ci := 5) (M' := mX5_isHeldByGlue) (h' := 1) (As := [.int a1]) mfX5_isHeldByGlue mvX5_isHeldByGlue ⟨_, _, rfl⟩ mlX0_69 dX0_levelStands_5 (kX5_isHeldByGlue G _ _ _) (fun _ hr => cX5_isHeldByGluek hr) ⟨Nat.le_of_ble_eq_true rfl, Nat.le_of_ble_eq_true rfl⟩ ⟨Nat.le_refl _, Nat.le_refl _⟩ rfl (Nat.le_of_ble_eq_true rfl) (fun r3 σ2 _ => ?_)
  refine hj_if_eq 13 dX0_levelStands_8 (by decide) (fun _ => ?_) (fun _ => ?_)
  · refine hj_iconst (2 : Int32) dX0_levelStands_13 (by decide) ?_
    refine hj_aload_n 0 dX0_levelStands_14 rfl ?_
    refine hj_getR flX0_9 dX0_levelStands_15 (fun t4 _ => ?_)
    refine hj_iload_n 1 dX0_levelStands_18 rfl ?_
    refine hj_iald dX0_levelStands_19 (fun t5 _ => ?_)
    refine hj_imul dX0_levelStands_20 ?_
    refine hj_ltI (fun v6 _ => ?_)
    refine hj_istore_n (lv' := [(0, .ref a0), (1, .int a1), (2, .int v6)]) dX0_levelStands_21 (by decide) [1, 2, 0] rfl ?_
    refine hj_aload_n 0 dX0_levelStands_22 rfl ?_
    refine hj_getR flX0_29 dX0_levelStands_23 (fun t7 _ => ?_)
    refine hj_aload_n 0 dX0_levelStands_26 rfl ?_
    refine hj_getR flX0_25 dX0_levelStands_27 (fun t8 _ => ?_)
    refine hj_iload_n 1 dX0_levelStands_30 rfl ?_
    refine hj_callV (ci := 5) (M' := mX5_restLeft) (h' := 2) (As := [.ref t8, .int a1]) mfX5_restLeft mvX5_restLeft ⟨_, _, rfl⟩ mlX0_72 dX0_levelStands_31 (kX5_restLeft G _ _ _ _) (fun _ hr => cX5_restLeftk hr) ⟨Nat.le_of_ble_eq_true rfl, Nat.le_of_ble_eq_true rfl⟩ ⟨Nat.le_refl _, Nat.le_refl _⟩ rfl (Nat.le_of_ble_eq_true rfl) (fun r10 σ9 _ => ?_)
    refine hj_iload_n 2 dX0_levelStands_34 rfl ?_
    refine hj_imul dX0_levelStands_35 ?_
    refine hj_aload_n 0 dX0_levelStands_36 rfl ?_
    refine hj_getR flX0_15 dX0_levelStands_37 (fun t11 _ => ?_)
    refine hj_iload_n 1 dX0_levelStands_40 rfl ?_
    refine hj_iald dX0_levelStands_41 (fun t12 _ => ?_)
    refine hj_icmp_gt 72 dX0_levelStands_42 (by decide) (fun _ => ?_) (fun _ => ?_)
    · refine hj_iconst (0 : Int32) dX0_levelStands_72 (by decide) ?_
      exact hj_zret dX0_levelStands_73 rfl (by decide) rfl (Nat.le_refl _)
    · refine hj_aload_n 0 dX0_levelStands_45 rfl ?_
      refine hj_getR flX0_15 dX0_levelStands_46 (fun t13 _ => ?_)
      refine hj_iload_n 1 dX0_levelStands_49 rfl ?_
      refine hj_iald dX0_levelStands_50 (fun t14 _ => ?_)
      refine hj_aload_n 0 dX0_levelStands_51 rfl ?_
      refine hj_getR flX0_29 dX0_levelStands_52 (fun t15 _ => ?_)
      refine hj_aload_n 0 dX0_levelStands_55 rfl ?_
      refine hj_getR flX0_25 dX0_levelStands_56 (fun t16 _ => ?_)
      refine hj_iload_n 1 dX0_levelStands_59 rfl ?_
      refine hj_callV (ci := 5) (M' := mX5_restRight) (h' := 2) (As := [.ref t16, .int a1]) mfX5_restRight mvX5_restRight ⟨_, _, rfl⟩ mlX0_75 dX0_levelStands_60 (kX5_restRight G _ _ _ _) (fun _ hr => cX5_restRightk hr) ⟨Nat.le_of_ble_eq_true rfl, Nat.le_of_ble_eq_true rfl⟩ ⟨Nat.le_refl _, Nat.le_refl _⟩ rfl (Nat.le_of_ble_eq_true rfl) (fun r18 σ17 _ => ?_)
      refine hj_iload_n 2 dX0_levelStands_63 rfl ?_
      refine hj_imul dX0_levelStands_64 ?_
      refine hj_icmp_gt 72 dX0_levelStands_65 (by decide) (fun _ => ?_) (fun _ => ?_)
      · refine hj_iconst (0 : Int32) dX0_levelStands_72 (by decide) ?_
        exact hj_zret dX0_levelStands_73 rfl (by decide) rfl (Nat.le_refl _)
      · refine hj_iconst (1 : Int32) dX0_levelStands_68 (by decide) ?_
        refine hj_goto 73 dX0_levelStands_69 (by decide) ?_
        exact hj_zret dX0_levelStands_73 rfl (by decide) rfl (Nat.le_refl _)
  · refine hj_iconst (1 : Int32) dX0_levelStands_11 (by decide) ?_
    exact hj_zret dX0_levelStands_12 rfl (by decide) rfl (Nat.le_refl _)
theorem cX0_levelStandsk {a0 : Nat} {a1 : Int32} {σ : Sto} {r : Int32 × Sto} (h : fX0_levelStands a0 a1 σ = some r) : ∃ fs, hs_o σ 0 a0 = some fs := (ck_of h).1
def fX0_lowestFalling_b2 : Nat → Nat → Int32 → Sto → Option (Int32 × Sto)
  | 0, _, _, _ => none
  | n + 1, x0, x1, σ => ((gR σ 0 x0 1).bind fun t1 => ((gI σ 5 t1 0).bind fun t2 => (if t2 ≤ x1 then (some ((-1 : Int32), σ)) else (cb (fX0_levelStands x0 x1 σ) fun r4 σ3 => (if r4 = 0 then (some (x1, σ3)) else (fX0_lowestFalling_b2 n x0 (x1 + (1 : Int32)) σ3))))))
set_option maxHeartbeats 2000000 in
theorem sX0_lowestFalling_b2 {G : GP} {n0 : Nat} : ∀ (n : Nat) (x0 : Nat) (x1 : Int32) (σ : Sto), Sim G mX0_lowestFalling 4 0 0 n0 jI 0 0 2 [(0, .ref x0), (1, .int x1)] [] σ (fX0_lowestFalling_b2 n x0 x1 σ) := by
  intro n
  induction n with
  | zero => intros; rw [fX0_lowestFalling_b2]; exact hj_none
  | succ n ih =>
    intro x0 x1 σ
    rw [fX0_lowestFalling_b2]
    refine hj_iload_n 1 dX0_lowestFalling_2 rfl ?_
    refine hj_aload_n 0 dX0_lowestFalling_3 rfl ?_
    refine hj_getR flX0_29 dX0_lowestFalling_4 (fun t1 _ => ?_)
    refine hj_getI flX0_33 dX0_lowestFalling_7 (fun t2 _ => ?_)
    refine hj_icmp_ge 29 dX0_lowestFalling_10 (by decide) (fun _ => ?_) (fun _ => ?_)
    · refine hj_iconst (-1 : Int32) dX0_lowestFalling_29 (by decide) ?_
      exact hj_iret dX0_lowestFalling_30 rfl rfl (Nat.le_refl _)
    · refine hj_aload_n 0 dX0_lowestFalling_13 rfl ?_
      refine hj_iload_n 1 dX0_lowestFalling_14 rfl ?_
      refine hj_callV (ci := 0) (M' := mX0_levelStands) (h' := 3) (As := [.int x1]) mfX0_levelStands mvX0_levelStands ⟨_, _, rfl⟩ mlX0_65 dX0_lowestFalling_15 (kX0_levelStands G _ _ _) (fun _ hr => cX0_levelStandsk hr) ⟨Nat.le_of_ble_eq_true rfl, Nat.le_of_ble_eq_true rfl⟩ ⟨Nat.le_refl _, Nat.le_refl _⟩ rfl (Nat.le_of_ble_eq_true rfl) (fun r4 σ3 _ => ?_)
      refine hj_if_ne 23 dX0_lowestFalling_18 (by decide) (fun _ => ?_) (fun _ => ?_)
      · refine hj_iinc (lv' := [(0, .ref x0), (1, .int (x1 + (1 : Int32)))]) 1 (1 : Int32) dX0_lowestFalling_23 rfl (by decide) (by decide) [1, 0] rfl ?_
        refine hj_goto 2 dX0_lowestFalling_26 (by decide) ?_
        refine hj_loc (lv' := [(0, .ref x0), (1, .int (x1 + (1 : Int32)))]) [0, 1] rfl ?_
        exact ih _ _ _
      · refine hj_iload_n 1 dX0_lowestFalling_21 rfl ?_
        exact hj_iret dX0_lowestFalling_22 rfl rfl (Nat.le_refl _)
def fX0_lowestFalling (a0 : Nat) (σ : Sto) : Option (Int32 × Sto) := ck σ 0 a0 (fX0_lowestFalling_b2 FU a0 ((0 : Int32)) σ)
set_option maxHeartbeats 2000000 in
theorem kX0_lowestFalling (G : GP) (a0 : Nat) (σ : Sto) : Me G mX0_lowestFalling 4 0 0 jI [.ref a0] σ (fX0_lowestFalling a0 σ) := by
  refine hs_me (lv := [(0, .ref a0)]) (plainFor_of_name (by decide +kernel)) (Nat.le_of_ble_eq_true rfl) rfl ?_
  unfold fX0_lowestFalling
  refine hj_ck ?_
  refine hj_iconst (0 : Int32) dX0_lowestFalling_0 (by decide) ?_
  refine hj_istore_n (lv' := [(0, .ref a0), (1, .int (0 : Int32))]) dX0_lowestFalling_1 (by decide) [1, 0] rfl ?_
  refine hj_loc (lv' := [(0, .ref a0), (1, .int (0 : Int32))]) [0, 1] rfl ?_
  exact sX0_lowestFalling_b2 _ _ _ _
theorem cX0_lowestFallingk {a0 : Nat} {σ : Sto} {r : Int32 × Sto} (h : fX0_lowestFalling a0 σ = some r) : ∃ fs, hs_o σ 0 a0 = some fs := (ck_of h).1
def fX0_allStand (a0 : Nat) (a1 : Nat) (a2 : Nat) (σ : Sto) : Option (Int32 × Sto) := ck σ 0 a0 (cb (fX0_weigh a0 a1 a2 σ) fun _ σ1 => (cb (fX0_lowestFalling a0 σ1) fun r3 σ2 => (if r3 = (-1 : Int32) then (some ((1 : Int32), σ2)) else (some ((0 : Int32), σ2)))))
set_option maxHeartbeats 2000000 in
theorem kX0_allStand (G : GP) (a0 : Nat) (a1 : Nat) (a2 : Nat) (σ : Sto) : Me G mX0_allStand 5 0 0 jI [.ref a0, .ref a1, .ref a2] σ (fX0_allStand a0 a1 a2 σ) := by
  refine hs_me (lv := [(0, .ref a0), (1, .ref a1), (2, .ref a2)]) (plainFor_of_name (by decide +kernel)) (Nat.le_of_ble_eq_true rfl) rfl ?_
  unfold fX0_allStand
  refine hj_ck ?_
  refine hj_aload_n 0 dX0_allStand_0 rfl ?_
  refine hj_aload_n 1 dX0_allStand_1 rfl ?_
  refine hj_aload_n 2 dX0_allStand_2 rfl ?_
  refine hj_callV (ci := 0) (M' := mX0_weigh) (h' := 4) (As := [.ref a1, .ref a2]) mfX0_weigh mvX0_weigh ⟨_, _, rfl⟩ mlX0_57 dX0_allStand_3 (kX0_weigh G _ _ _ _) (fun _ hr => cX0_weighk hr) ⟨Nat.le_of_ble_eq_true rfl, Nat.le_of_ble_eq_true rfl⟩ ⟨Nat.le_refl _, Nat.le_refl _⟩ rfl (Nat.le_of_ble_eq_true rfl) (fun _ σ1 _ => ?_)
  refine hj_aload_n 0 dX0_allStand_6 rfl ?_
  refine hj_callV (ci := 0) (M' := mX0_lowestFalling) (h' := 4) (As := []) mfX0_lowestFalling mvX0_lowestFalling ⟨_, _, rfl⟩ mlX0_61 dX0_allStand_7 (kX0_lowestFalling G _ _) (fun _ hr => cX0_lowestFallingk hr) ⟨Nat.le_of_ble_eq_true rfl, Nat.le_of_ble_eq_true rfl⟩ ⟨Nat.le_refl _, Nat.le_refl _⟩ rfl (Nat.le_of_ble_eq_true rfl) (fun r3 σ2 _ => ?_)
  refine hj_iconst (-1 : Int32) dX0_allStand_10 (by decide) ?_
  refine hj_icmp_ne 18 dX0_allStand_11 (by decide) (fun _ => ?_) (fun _ => ?_)
  · refine hj_iconst (0 : Int32) dX0_allStand_18 (by decide) ?_
    exact hj_zret dX0_allStand_19 rfl (by decide) rfl (Nat.le_refl _)
  · refine hj_iconst (1 : Int32) dX0_allStand_14 (by decide) ?_
    refine hj_goto 19 dX0_allStand_15 (by decide) ?_
    exact hj_zret dX0_allStand_19 rfl (by decide) rfl (Nat.le_refl _)
theorem cX0_allStandk {a0 : Nat} {a1 : Nat} {a2 : Nat} {σ : Sto} {r : Int32 × Sto} (h : fX0_allStand a0 a1 a2 σ = some r) : ∃ fs, hs_o σ 0 a0 = some fs := (ck_of h).1
def fX0_fallsRight_b78 (x0 : Nat) (x1 : Int32) (y0 : Int32) (σ : Sto) : Option (Int32 × Sto) := ((gR σ 0 x0 1).bind fun t1 => ((gR σ 5 t1 2).bind fun t2 => ((aI σ 2 t2 x1).bind fun t3 => (if t3 ≤ y0 then (some ((0 : Int32), σ)) else (some ((1 : Int32), σ))))))
set_option maxHeartbeats 2000000 in
theorem sX0_fallsRight_b78 {G : GP} {n0 : Nat} : ∀ (x0 : Nat) (x1 : Int32) (y0 : Int32) (σ : Sto), Sim G mX0_fallsRight 3 0 0 n0 jI 0 0 78 [(0, .ref x0), (1, .int x1)] [.int y0] σ (fX0_fallsRight_b78 x0 x1 y0 σ) := by
  intro x0 x1 y0 σ
  unfold fX0_fallsRight_b78
  refine hj_istore (lv' := [(0, .ref x0), (1, .int x1), (4, .int y0)]) dX0_fallsRight_78 (by decide) [1, 2, 0] rfl ?_
  refine hj_aload_n 0 dX0_fallsRight_80 rfl ?_
  refine hj_getR flX0_29 dX0_fallsRight_81 (fun t1 _ => ?_)
  refine hj_getR flX0_81 dX0_fallsRight_84 (fun t2 _ => ?_)
  refine hj_iload_n 1 dX0_fallsRight_87 rfl ?_
  refine hj_iald dX0_fallsRight_88 (fun t3 _ => ?_)
  refine hj_iload 2 dX0_fallsRight_89 rfl ?_
  refine hj_icmp_le 98 dX0_fallsRight_91 (by decide) (fun _ => ?_) (fun _ => ?_)
  · refine hj_iconst (0 : Int32) dX0_fallsRight_98 (by decide) ?_
    exact hj_zret dX0_fallsRight_99 rfl (by decide) rfl (Nat.le_refl _)
  · refine hj_iconst (1 : Int32) dX0_fallsRight_94 (by decide) ?_
    refine hj_goto 99 dX0_fallsRight_95 (by decide) ?_
    exact hj_zret dX0_fallsRight_99 rfl (by decide) rfl (Nat.le_refl _)
def fX0_fallsRight (a0 : Nat) (a1 : Int32) (σ : Sto) : Option (Int32 × Sto) := ck σ 0 a0 ((gR σ 0 a0 1).bind fun t4 => ((gR σ 0 a0 0).bind fun t5 => (cb (fX5_restLeft t4 t5 a1 σ) fun r7 σ6 => ((gR σ6 0 a0 1).bind fun t8 => ((gR σ6 0 a0 0).bind fun t9 => (cb (fX5_restRight t8 t9 a1 σ6) fun r11 σ10 => (if r11 < r7 then (if a1 = 0 then (fX0_fallsRight_b78 a0 a1 ((0 : Int32)) σ10) else ((gR σ10 0 a0 1).bind fun t12 => ((gR σ10 0 a0 0).bind fun t13 => (cb (fX5_rightEnd t12 t13 ((a1 - ((1 : Int32)))) σ10) fun r15 σ14 => (fX0_fallsRight_b78 a0 a1 r15 σ14))))) else ((gR σ10 0 a0 3).bind fun t16 => ((aI σ10 2 t16 a1).bind fun t17 => ((gR σ10 0 a0 2).bind fun t18 => ((aI σ10 2 t18 a1).bind fun t19 => (if t17 ≤ (((r11 * ((2 : Int32)))) * t19) then (some ((0 : Int32), σ10)) else (some ((1 : Int32), σ10))))))))))))))
set_option maxHeartbeats 2000000 in
theorem kX0_fallsRight (G : GP) (a0 : Nat) (a1 : Int32) (σ : Sto) : Me G mX0_fallsRight 3 0 0 jI [.ref a0, .int a1] σ (fX0_fallsRight a0 a1 σ) := by
  refine hs_me (lv := [(0, .ref a0), (1, .int a1)]) (plainFor_of_name (by decide +kernel)) (Nat.le_of_ble_eq_true rfl) rfl ?_
  unfold fX0_fallsRight
  refine hj_ck ?_
  refine hj_aload_n 0 dX0_fallsRight_0 rfl ?_
  refine hj_getR flX0_29 dX0_fallsRight_1 (fun t4 _ => ?_)
  refine hj_aload_n 0 dX0_fallsRight_4 rfl ?_
  refine hj_getR flX0_25 dX0_fallsRight_5 (fun t5 _ => ?_)
  refine hj_iload_n 1 dX0_fallsRight_8 rfl ?_
  refine hj_callV (ci := 5) (M' := mX5_restLeft) (h' := 2) (As := [.ref t5, .int a1]) mfX5_restLeft mvX5_restLeft ⟨_, _, rfl⟩ mlX0_72 dX0_fallsRight_9 (kX5_restLeft G _ _ _ _) (fun _ hr => cX5_restLeftk hr) ⟨Nat.le_of_ble_eq_true rfl, Nat.le_of_ble_eq_true rfl⟩ ⟨Nat.le_refl _, Nat.le_refl _⟩ rfl (Nat.le_of_ble_eq_true rfl) (fun r7 σ6 _ => ?_)
  refine hj_istore_n (lv' := [(0, .ref a0), (1, .int a1), (2, .int r7)]) dX0_fallsRight_12 (by decide) [1, 2, 0] rfl ?_
  refine hj_aload_n 0 dX0_fallsRight_13 rfl ?_
  refine hj_getR flX0_29 dX0_fallsRight_14 (fun t8 _ => ?_)
  refine hj_aload_n 0 dX0_fallsRight_17 rfl ?_
  refine hj_getR flX0_25 dX0_fallsRight_18 (fun t9 _ => ?_)
  refine hj_iload_n 1 dX0_fallsRight_21 rfl ?_
  refine hj_callV (ci := 5) (M' := mX5_restRight) (h' := 2) (As := [.ref t9, .int a1]) mfX5_restRight mvX5_restRight ⟨_, _, rfl⟩ mlX0_75 dX0_fallsRight_22 (kX5_restRight G _ _ _ _) (fun _ hr => cX5_restRightk hr) ⟨Nat.le_of_ble_eq_true rfl, Nat.le_of_ble_eq_true rfl⟩ ⟨Nat.le_refl _, Nat.le_refl _⟩ rfl (Nat.le_of_ble_eq_true rfl) (fun r11 σ10 _ => ?_)
  refine hj_istore_n (lv' := [(0, .ref a0), (1, .int a1), (2, .int r7), (3, .int r11)]) dX0_fallsRight_25 (by decide) [1, 2, 3, 0] rfl ?_
  refine hj_iload_n 2 dX0_fallsRight_26 rfl ?_
  refine hj_iload_n 3 dX0_fallsRight_27 rfl ?_
  refine hj_icmp_gt 56 dX0_fallsRight_28 (by decide) (fun _ => ?_) (fun _ => ?_)
  · refine hj_iload_n 1 dX0_fallsRight_56 rfl ?_
    refine hj_if_ne 64 dX0_fallsRight_57 (by decide) (fun _ => ?_) (fun _ => ?_)
    · refine hj_aload_n 0 dX0_fallsRight_64 rfl ?_
      refine hj_getR flX0_29 dX0_fallsRight_65 (fun t12 _ => ?_)
      refine hj_aload_n 0 dX0_fallsRight_68 rfl ?_
      refine hj_getR flX0_25 dX0_fallsRight_69 (fun t13 _ => ?_)
      refine hj_iload_n 1 dX0_fallsRight_72 rfl ?_
      refine hj_iconst (1 : Int32) dX0_fallsRight_73 (by decide) ?_
      refine hj_isub dX0_fallsRight_74 ?_
      refine hj_callV (ci := 5) (M' := mX5_rightEnd) (h' := 1) (As := [.ref t13, .int ((a1 - ((1 : Int32))))]) mfX5_rightEnd mvX5_rightEnd ⟨_, _, rfl⟩ mlX0_78 dX0_fallsRight_75 (kX5_rightEnd G _ _ _ _) (fun _ hr => cX5_rightEndk hr) ⟨Nat.le_of_ble_eq_true rfl, Nat.le_of_ble_eq_true rfl⟩ ⟨Nat.le_refl _, Nat.le_refl _⟩ rfl (Nat.le_of_ble_eq_true rfl) (fun r15 σ14 _ => ?_)
      refine hj_loc (lv' := [(0, .ref a0), (1, .int a1)]) [0, 1] rfl ?_
      exact sX0_fallsRight_b78 _ _ _ _
    · refine hj_iconst (0 : Int32) dX0_fallsRight_60 (by decide) ?_
      refine hj_goto 78 dX0_fallsRight_61 (by decide) ?_
      refine hj_loc (lv' := [(0, .ref a0), (1, .int a1)]) [0, 1] rfl ?_
      exact sX0_fallsRight_b78 _ _ _ _
  · refine hj_aload_n 0 dX0_fallsRight_31 rfl ?_
    refine hj_getR flX0_15 dX0_fallsRight_32 (fun t16 _ => ?_)
    refine hj_iload_n 1 dX0_fallsRight_35 rfl ?_
    refine hj_iald dX0_fallsRight_36 (fun t17 _ => ?_)
    refine hj_iload_n 3 dX0_fallsRight_37 rfl ?_
    refine hj_iconst (2 : Int32) dX0_fallsRight_38 (by decide) ?_
    refine hj_imul dX0_fallsRight_39 ?_
    refine hj_aload_n 0 dX0_fallsRight_40 rfl ?_
    refine hj_getR flX0_9 dX0_fallsRight_41 (fun t18 _ => ?_)
    refine hj_iload_n 1 dX0_fallsRight_44 rfl ?_
    refine hj_iald dX0_fallsRight_45 (fun t19 _ => ?_)
    refine hj_imul dX0_fallsRight_46 ?_
    refine hj_icmp_le 54 dX0_fallsRight_47 (by decide) (fun _ => ?_) (fun _ => ?_)
    · refine hj_iconst (0 : Int32) dX0_fallsRight_54 (by decide) ?_
      exact hj_zret dX0_fallsRight_55 rfl (by decide) rfl (Nat.le_refl _)
    · refine hj_iconst (1 : Int32) dX0_fallsRight_50 (by decide) ?_
      refine hj_goto 55 dX0_fallsRight_51 (by decide) ?_
      exact hj_zret dX0_fallsRight_55 rfl (by decide) rfl (Nat.le_refl _)
theorem cX0_fallsRightk {a0 : Nat} {a1 : Int32} {σ : Sto} {r : Int32 × Sto} (h : fX0_fallsRight a0 a1 σ = some r) : ∃ fs, hs_o σ 0 a0 = some fs := (ck_of h).1
def fX0_narrow (a0 : Nat) (a1 : Int32) (a2 : Int32) (σ : Sto) : Option (Unit × Sto) := ck σ 0 a0 (if a1 ≤ 0 then (if 0 ≤ a1 then (if 0 ≤ a2 then (some ((), σ)) else ((pV σ 0 a0 5 (.int ((-1 : Int32)))).bind fun σ1 => (some ((), σ1)))) else ((gI σ 0 a0 4).bind fun t2 => (cb (fJ9_floorDiv_7cf53 a2 ((-a1)) σ) fun r4 σ3 => (cb (fJ9_max_7cf53 t2 ((-r4)) σ3) fun r6 σ5 => ((pV σ5 0 a0 4 (.int r6)).bind fun σ7 => (some ((), σ7))))))) else ((gI σ 0 a0 5).bind fun t8 => (cb (fJ9_floorDiv_7cf53 a2 a1 σ) fun r10 σ9 => (cb (fJ9_min_7cf53 t8 r10 σ9) fun r12 σ11 => ((pV σ11 0 a0 5 (.int r12)).bind fun σ13 => (some ((), σ13)))))))
set_option maxHeartbeats 2000000 in
theorem kX0_narrow (G : GP) (a0 : Nat) (a1 : Int32) (a2 : Int32) (σ : Sto) : Me G mX0_narrow 2 0 0 jV [.ref a0, .int a1, .int a2] σ (fX0_narrow a0 a1 a2 σ) := by
  refine hs_me (lv := [(0, .ref a0), (1, .int a1), (2, .int a2)]) (plainFor_of_name (by decide +kernel)) (Nat.le_of_ble_eq_true rfl) rfl ?_
  unfold fX0_narrow
  refine hj_ck ?_
  refine hj_iload_n 1 dX0_narrow_0 rfl ?_
  refine hj_if_le 23 dX0_narrow_1 (by decide) (fun _ => ?_) (fun _ => ?_)
  · refine hj_iload_n 1 dX0_narrow_23 rfl ?_
    refine hj_if_ge 48 dX0_narrow_24 (by decide) (fun _ => ?_) (fun _ => ?_)
    · refine hj_iload_n 2 dX0_narrow_48 rfl ?_
      refine hj_if_ge 57 dX0_narrow_49 (by decide) (fun _ => ?_) (fun _ => ?_)
      · exact hj_vret dX0_narrow_57 rfl rfl (Nat.le_refl _)
      · refine hj_aload_n 0 dX0_narrow_52 rfl ?_
        refine hj_iconst (-1 : Int32) dX0_narrow_53 (by decide) ?_
        refine hj_put (fpX0_22 _) (fun _ => rfl) (fun _ => rfl) dX0_narrow_54 (fun σ1 _ => ?_)
        exact hj_vret dX0_narrow_57 rfl rfl (Nat.le_refl _)
    · refine hj_aload_n 0 dX0_narrow_27 rfl ?_
      refine hj_aload_n 0 dX0_narrow_28 rfl ?_
      refine hj_getI flX0_18 dX0_narrow_29 (fun t2 _ => ?_)
      refine hj_iload_n 2 dX0_narrow_32 rfl ?_
      refine hj_iload_n 1 dX0_narrow_33 rfl ?_
      refine hj_ineg dX0_narrow_34 ?_
      refine hj_callS (M' := mJ9_floorDiv_7cf53) (h' := 1) (As := [.int a2, .int ((-a1))]) mfJ9_floorDiv_7cf53 msJ9_floorDiv_7cf53 mlX0_88 dX0_narrow_35 (kJ9_floorDiv_7cf53 G _ _ _) ⟨Nat.le_of_ble_eq_true rfl, Nat.le_of_ble_eq_true rfl⟩ ⟨Nat.le_refl _, Nat.le_refl _⟩ rfl (Nat.le_of_ble_eq_true rfl) (fun r4 σ3 _ => ?_)
      refine hj_ineg dX0_narrow_38 ?_
      refine hj_callS (M' := mJ9_max_7cf53) (h' := 1) (As := [.int t2, .int ((-r4))]) mfJ9_max_7cf53 msJ9_max_7cf53 mlX0_97 dX0_narrow_39 (kJ9_max_7cf53 G _ _ _) ⟨Nat.le_of_ble_eq_true rfl, Nat.le_of_ble_eq_true rfl⟩ ⟨Nat.le_refl _, Nat.le_refl _⟩ rfl (Nat.le_of_ble_eq_true rfl) (fun r6 σ5 _ => ?_)
      refine hj_put (fpX0_18 _) (fun _ => rfl) (fun _ => rfl) dX0_narrow_42 (fun σ7 _ => ?_)
      refine hj_goto 57 dX0_narrow_45 (by decide) ?_
      exact hj_vret dX0_narrow_57 rfl rfl (Nat.le_refl _)
  · refine hj_aload_n 0 dX0_narrow_4 rfl ?_
    refine hj_aload_n 0 dX0_narrow_5 rfl ?_
    refine hj_getI flX0_22 dX0_narrow_6 (fun t8 _ => ?_)
    refine hj_iload_n 2 dX0_narrow_9 rfl ?_
    refine hj_iload_n 1 dX0_narrow_10 rfl ?_
    refine hj_callS (M' := mJ9_floorDiv_7cf53) (h' := 1) (As := [.int a2, .int a1]) mfJ9_floorDiv_7cf53 msJ9_floorDiv_7cf53 mlX0_88 dX0_narrow_11 (kJ9_floorDiv_7cf53 G _ _ _) ⟨Nat.le_of_ble_eq_true rfl, Nat.le_of_ble_eq_true rfl⟩ ⟨Nat.le_refl _, Nat.le_refl _⟩ rfl (Nat.le_of_ble_eq_true rfl) (fun r10 σ9 _ => ?_)
    refine hj_callS (M' := mJ9_min_7cf53) (h' := 1) (As := [.int t8, .int r10]) mfJ9_min_7cf53 msJ9_min_7cf53 mlX0_94 dX0_narrow_14 (kJ9_min_7cf53 G _ _ _) ⟨Nat.le_of_ble_eq_true rfl, Nat.le_of_ble_eq_true rfl⟩ ⟨Nat.le_refl _, Nat.le_refl _⟩ rfl (Nat.le_of_ble_eq_true rfl) (fun r12 σ11 _ => ?_)
    refine hj_put (fpX0_22 _) (fun _ => rfl) (fun _ => rfl) dX0_narrow_17 (fun σ13 _ => ?_)
    refine hj_goto 57 dX0_narrow_20 (by decide) ?_
    exact hj_vret dX0_narrow_57 rfl rfl (Nat.le_refl _)
theorem cX0_narrowk {a0 : Nat} {a1 : Int32} {a2 : Int32} {σ : Sto} {r : Unit × Sto} (h : fX0_narrow a0 a1 a2 σ = some r) : ∃ fs, hs_o σ 0 a0 = some fs := (ck_of h).1
def fX0_bearing_b178 (x0 : Nat) (σ : Sto) : Option (Int32 × Sto) := ((gI σ 0 x0 4).bind fun t6 => ((gI σ 0 x0 5).bind fun t7 => (if t7 < t6 then (some ((0 : Int32), σ)) else (some ((1 : Int32), σ)))))
set_option maxHeartbeats 2000000 in
theorem sX0_bearing_b178 {G : GP} {n0 : Nat} : ∀ (x0 : Nat) (σ : Sto), Sim G mX0_bearing 3 0 0 n0 jI 0 0 178 [(0, .ref x0)] [] σ (fX0_bearing_b178 x0 σ) := by
  intro x0 σ
  unfold fX0_bearing_b178
  refine hj_aload_n 0 dX0_bearing_178 rfl ?_
  refine hj_getI flX0_18 dX0_bearing_179 (fun t6 _ => ?_)
  refine hj_aload_n 0 dX0_bearing_182 rfl ?_
  refine hj_getI flX0_22 dX0_bearing_183 (fun t7 _ => ?_)
  refine hj_icmp_gt 193 dX0_bearing_186 (by decide) (fun _ => ?_) (fun _ => ?_)
  · refine hj_iconst (0 : Int32) dX0_bearing_193 (by decide) ?_
    exact hj_zret dX0_bearing_194 rfl (by decide) rfl (Nat.le_refl _)
  · refine hj_iconst (1 : Int32) dX0_bearing_189 (by decide) ?_
    refine hj_goto 194 dX0_bearing_190 (by decide) ?_
    exact hj_zret dX0_bearing_194 rfl (by decide) rfl (Nat.le_refl _)
def fX0_bearing_b172 (K27 : Nat → Int32 → Int32 → Int32 → Sto → Option (Int32 × Sto)) (x0 : Nat) (x1 : Int32) (x3 : Int32) (x4 : Int32) (σ : Sto) : Option (Int32 × Sto) := (K27 x0 x1 x3 (x4 + (1 : Int32)) σ)
set_option maxHeartbeats 2000000 in
theorem sX0_bearing_b172 {G : GP} {n0 : Nat} {K27 : Nat → Int32 → Int32 → Int32 → Sto → Option (Int32 × Sto)} (hK27 : ∀ (x0 : Nat) (x1 : Int32) (x3 : Int32) (x4 : Int32) (σ : Sto), Sim G mX0_bearing 3 0 0 n0 jI 0 0 27 [(0, .ref x0), (1, .int x1), (3, .int x3), (4, .int x4)] [] σ (K27 x0 x1 x3 x4 σ)) : ∀ (x0 : Nat) (x1 : Int32) (x3 : Int32) (x4 : Int32) (σ : Sto), Sim G mX0_bearing 3 0 0 n0 jI 0 0 172 [(0, .ref x0), (1, .int x1), (3, .int x3), (4, .int x4)] [] σ (fX0_bearing_b172 K27 x0 x1 x3 x4 σ) := by
  intro x0 x1 x3 x4 σ
  unfold fX0_bearing_b172
  refine hj_iinc (lv' := [(0, .ref x0), (1, .int x1), (3, .int x3), (4, .int (x4 + (1 : Int32)))]) 3 (1 : Int32) dX0_bearing_172 rfl (by decide) (by decide) [1, 2, 3, 0] rfl ?_
  refine hj_goto 27 dX0_bearing_175 (by decide) ?_
  refine hj_loc (lv' := [(0, .ref x0), (1, .int x1), (3, .int x3), (4, .int (x4 + (1 : Int32)))]) [0, 1, 2, 3] rfl ?_
  exact hK27 _ _ _ _ _
def fX0_bearing_b149 (K27 : Nat → Int32 → Int32 → Int32 → Sto → Option (Int32 × Sto)) (x0 : Nat) (x1 : Int32) (x3 : Int32) (x4 : Int32) (x6 : Int32) (y0 : Nat) (y1 : Int32) (σ : Sto) : Option (Int32 × Sto) := ((gR σ 0 x0 2).bind fun t8 => ((aI σ 2 t8 x4).bind fun t9 => ((gR σ 0 x0 3).bind fun t10 => ((aI σ 2 t10 x4).bind fun t11 => (cb (fX0_narrow y0 y1 ((((((((2 : Int32)) * x6)) * t9)) - t11)) σ) fun _ σ12 => (fX0_bearing_b172 K27 x0 x1 x3 x4 σ12))))))
set_option maxHeartbeats 2000000 in
theorem sX0_bearing_b149 {G : GP} {n0 : Nat} {K27 : Nat → Int32 → Int32 → Int32 → Sto → Option (Int32 × Sto)} (hK27 : ∀ (x0 : Nat) (x1 : Int32) (x3 : Int32) (x4 : Int32) (σ : Sto), Sim G mX0_bearing 3 0 0 n0 jI 0 0 27 [(0, .ref x0), (1, .int x1), (3, .int x3), (4, .int x4)] [] σ (K27 x0 x1 x3 x4 σ)) : ∀ (x0 : Nat) (x1 : Int32) (x3 : Int32) (x4 : Int32) (x6 : Int32) (y0 : Nat) (y1 : Int32) (σ : Sto), Sim G mX0_bearing 3 0 0 n0 jI 0 0 149 [(0, .ref x0), (1, .int x1), (3, .int x3), (4, .int x4), (6, .int x6)] [.int y1, .ref y0] σ (fX0_bearing_b149 K27 x0 x1 x3 x4 x6 y0 y1 σ) := by
  intro x0 x1 x3 x4 x6 y0 y1 σ
  unfold fX0_bearing_b149
  refine hj_iconst (2 : Int32) dX0_bearing_149 (by decide) ?_
  refine hj_iload 4 dX0_bearing_150 rfl ?_
  refine hj_imul dX0_bearing_152 ?_
  refine hj_aload_n 0 dX0_bearing_153 rfl ?_
  refine hj_getR flX0_9 dX0_bearing_154 (fun t8 _ => ?_)
  refine hj_iload 3 dX0_bearing_157 rfl ?_
  refine hj_iald dX0_bearing_159 (fun t9 _ => ?_)
  refine hj_imul dX0_bearing_160 ?_
  refine hj_aload_n 0 dX0_bearing_161 rfl ?_
  refine hj_getR flX0_15 dX0_bearing_162 (fun t10 _ => ?_)
  refine hj_iload 3 dX0_bearing_165 rfl ?_
  refine hj_iald dX0_bearing_167 (fun t11 _ => ?_)
  refine hj_isub dX0_bearing_168 ?_
  refine hj_callV (ci := 0) (M' := mX0_narrow) (h' := 2) (As := [.int y1, .int ((((((((2 : Int32)) * x6)) * t9)) - t11))]) mfX0_narrow mvX0_narrow ⟨_, _, rfl⟩ mlX0_84 dX0_bearing_169 (kX0_narrow G _ _ _ _) (fun _ hr => cX0_narrowk hr) ⟨Nat.le_of_ble_eq_true rfl, Nat.le_of_ble_eq_true rfl⟩ ⟨Nat.le_refl _, Nat.le_refl _⟩ rfl (Nat.le_of_ble_eq_true rfl) (fun _ σ12 _ => ?_)
  refine hj_loc (lv' := [(0, .ref x0), (1, .int x1), (3, .int x3), (4, .int x4)]) [0, 1, 2, 3] rfl ?_
  exact sX0_bearing_b172 hK27 _ _ _ _ _
def fX0_bearing_b110 (K27 : Nat → Int32 → Int32 → Int32 → Sto → Option (Int32 × Sto)) (x0 : Nat) (x1 : Int32) (x3 : Int32) (x4 : Int32) (x5 : Int32) (x6 : Int32) (x7 : Int32) (y0 : Nat) (y1 : Int32) (σ : Sto) : Option (Int32 × Sto) := ((gR σ 0 x0 3).bind fun t1 => ((aI σ 2 t1 x4).bind fun t2 => ((gR σ 0 x0 2).bind fun t3 => ((aI σ 2 t3 x4).bind fun t4 => (cb (fX0_narrow y0 y1 ((t2 - ((((((2 : Int32)) * x5)) * t4)))) σ) fun _ σ5 => (if x7 = 0 then (fX0_bearing_b149 K27 x0 x1 x3 x4 x6 x0 ((0 : Int32)) σ5) else (fX0_bearing_b149 K27 x0 x1 x3 x4 x6 x0 ((((2 : Int32)) * ((x3 - x6)))) σ5)))))))
set_option maxHeartbeats 2000000 in
theorem sX0_bearing_b110 {G : GP} {n0 : Nat} {K27 : Nat → Int32 → Int32 → Int32 → Sto → Option (Int32 × Sto)} (hK27 : ∀ (x0 : Nat) (x1 : Int32) (x3 : Int32) (x4 : Int32) (σ : Sto), Sim G mX0_bearing 3 0 0 n0 jI 0 0 27 [(0, .ref x0), (1, .int x1), (3, .int x3), (4, .int x4)] [] σ (K27 x0 x1 x3 x4 σ)) : ∀ (x0 : Nat) (x1 : Int32) (x3 : Int32) (x4 : Int32) (x5 : Int32) (x6 : Int32) (x7 : Int32) (y0 : Nat) (y1 : Int32) (σ : Sto), Sim G mX0_bearing 3 0 0 n0 jI 0 0 110 [(0, .ref x0), (1, .int x1), (3, .int x3), (4, .int x4), (5, .int x5), (6, .int x6), (7, .int x7)] [.int y1, .ref y0] σ (fX0_bearing_b110 K27 x0 x1 x3 x4 x5 x6 x7 y0 y1 σ) := by
  intro x0 x1 x3 x4 x5 x6 x7 y0 y1 σ
  unfold fX0_bearing_b110
  refine hj_aload_n 0 dX0_bearing_110 rfl ?_
  refine hj_getR flX0_15 dX0_bearing_111 (fun t1 _ => ?_)
  refine hj_iload 3 dX0_bearing_114 rfl ?_
  refine hj_iald dX0_bearing_116 (fun t2 _ => ?_)
  refine hj_iconst (2 : Int32) dX0_bearing_117 (by decide) ?_
  refine hj_iload 4 dX0_bearing_118 rfl ?_
  refine hj_imul dX0_bearing_120 ?_
  refine hj_aload_n 0 dX0_bearing_121 rfl ?_
  refine hj_getR flX0_9 dX0_bearing_122 (fun t3 _ => ?_)
  refine hj_iload 3 dX0_bearing_125 rfl ?_
  refine hj_iald dX0_bearing_127 (fun t4 _ => ?_)
  refine hj_imul dX0_bearing_128 ?_
  refine hj_isub dX0_bearing_129 ?_
  refine hj_callV (ci := 0) (M' := mX0_narrow) (h' := 2) (As := [.int y1, .int ((t2 - ((((((2 : Int32)) * x5)) * t4))))]) mfX0_narrow mvX0_narrow ⟨_, _, rfl⟩ mlX0_84 dX0_bearing_130 (kX0_narrow G _ _ _ _) (fun _ hr => cX0_narrowk hr) ⟨Nat.le_of_ble_eq_true rfl, Nat.le_of_ble_eq_true rfl⟩ ⟨Nat.le_refl _, Nat.le_refl _⟩ rfl (Nat.le_of_ble_eq_true rfl) (fun _ σ5 _ => ?_)
  refine hj_aload_n 0 dX0_bearing_133 rfl ?_
  refine hj_iload 6 dX0_bearing_134 rfl ?_
  refine hj_if_eq 148 dX0_bearing_136 (by decide) (fun _ => ?_) (fun _ => ?_)
  · refine hj_iconst (0 : Int32) dX0_bearing_148 (by decide) ?_
    refine hj_loc (lv' := [(0, .ref x0), (1, .int x1), (3, .int x3), (4, .int x4), (6, .int x6)]) [0, 1, 2, 3, 5] rfl ?_
    exact sX0_bearing_b149 hK27 _ _ _ _ _ _ _ _
  · refine hj_iconst (2 : Int32) dX0_bearing_139 (by decide) ?_
    refine hj_iload_n 2 dX0_bearing_140 rfl ?_
    refine hj_iload 5 dX0_bearing_141 rfl ?_
    refine hj_isub dX0_bearing_143 ?_
    refine hj_imul dX0_bearing_144 ?_
    refine hj_goto 149 dX0_bearing_145 (by decide) ?_
    refine hj_loc (lv' := [(0, .ref x0), (1, .int x1), (3, .int x3), (4, .int x4), (6, .int x6)]) [0, 1, 2, 3, 5] rfl ?_
    exact sX0_bearing_b149 hK27 _ _ _ _ _ _ _ _
def fX0_bearing_b92 (K27 : Nat → Int32 → Int32 → Int32 → Sto → Option (Int32 × Sto)) (x0 : Nat) (x1 : Int32) (x3 : Int32) (x4 : Int32) (x5 : Int32) (x6 : Int32) (y0 : Int32) (σ : Sto) : Option (Int32 × Sto) := (if y0 = 0 then (fX0_bearing_b110 K27 x0 x1 x3 x4 x5 x6 y0 x0 ((0 : Int32)) σ) else (fX0_bearing_b110 K27 x0 x1 x3 x4 x5 x6 y0 x0 ((((2 : Int32)) * ((x5 - x3)))) σ))
set_option maxHeartbeats 2000000 in
theorem sX0_bearing_b92 {G : GP} {n0 : Nat} {K27 : Nat → Int32 → Int32 → Int32 → Sto → Option (Int32 × Sto)} (hK27 : ∀ (x0 : Nat) (x1 : Int32) (x3 : Int32) (x4 : Int32) (σ : Sto), Sim G mX0_bearing 3 0 0 n0 jI 0 0 27 [(0, .ref x0), (1, .int x1), (3, .int x3), (4, .int x4)] [] σ (K27 x0 x1 x3 x4 σ)) : ∀ (x0 : Nat) (x1 : Int32) (x3 : Int32) (x4 : Int32) (x5 : Int32) (x6 : Int32) (y0 : Int32) (σ : Sto), Sim G mX0_bearing 3 0 0 n0 jI 0 0 92 [(0, .ref x0), (1, .int x1), (3, .int x3), (4, .int x4), (5, .int x5), (6, .int x6)] [.int y0] σ (fX0_bearing_b92 K27 x0 x1 x3 x4 x5 x6 y0 σ) := by
  intro x0 x1 x3 x4 x5 x6 y0 σ
  unfold fX0_bearing_b92
  refine hj_istore (lv' := [(0, .ref x0), (1, .int x1), (3, .int x3), (4, .int x4), (5, .int x5), (6, .int x6), (7, .int y0)]) dX0_bearing_92 (by decide) [1, 2, 3, 4, 5, 6, 0] rfl ?_
  refine hj_aload_n 0 dX0_bearing_94 rfl ?_
  refine hj_iload 6 dX0_bearing_95 rfl ?_
  refine hj_if_eq 109 dX0_bearing_97 (by decide) (fun _ => ?_) (fun _ => ?_)
  · refine hj_iconst (0 : Int32) dX0_bearing_109 (by decide) ?_
    refine hj_loc (lv' := [(0, .ref x0), (1, .int x1), (3, .int x3), (4, .int x4), (5, .int x5), (6, .int x6), (7, .int y0)]) [0, 1, 2, 3, 4, 5, 6] rfl ?_
    exact sX0_bearing_b110 hK27 _ _ _ _ _ _ _ _ _ _
  · refine hj_iconst (2 : Int32) dX0_bearing_100 (by decide) ?_
    refine hj_iload 4 dX0_bearing_101 rfl ?_
    refine hj_iload_n 2 dX0_bearing_103 rfl ?_
    refine hj_isub dX0_bearing_104 ?_
    refine hj_imul dX0_bearing_105 ?_
    refine hj_goto 110 dX0_bearing_106 (by decide) ?_
    refine hj_loc (lv' := [(0, .ref x0), (1, .int x1), (3, .int x3), (4, .int x4), (5, .int x5), (6, .int x6), (7, .int y0)]) [0, 1, 2, 3, 4, 5, 6] rfl ?_
    exact sX0_bearing_b110 hK27 _ _ _ _ _ _ _ _ _ _
def fX0_bearing_b27 : Nat → Nat → Int32 → Int32 → Int32 → Sto → Option (Int32 × Sto)
  | 0, _, _, _, _, _ => none
  | n + 1, x0, x1, x3, x4, σ => ((gR σ 0 x0 1).bind fun t13 => ((gI σ 5 t13 0).bind fun t14 => (if t14 ≤ x4 then (fX0_bearing_b178 x0 σ) else ((gR σ 0 x0 1).bind fun t15 => (cb (fX5_isHeldByGlue t15 x4 σ) fun r17 σ16 => (if r17 = 0 then ((gR σ16 0 x0 1).bind fun t18 => ((gR σ16 0 x0 0).bind fun t19 => (cb (fX5_restLeft t18 t19 x4 σ16) fun r21 σ20 => ((gR σ20 0 x0 1).bind fun t22 => ((gR σ20 0 x0 0).bind fun t23 => (cb (fX5_restRight t22 t23 x4 σ20) fun r25 σ24 => (if x1 < x4 then (fX0_bearing_b92 (fX0_bearing_b27 n) x0 x1 x3 x4 r21 r25 ((0 : Int32)) σ24) else (fX0_bearing_b92 (fX0_bearing_b27 n) x0 x1 x3 x4 r21 r25 ((1 : Int32)) σ24)))))))) else (fX0_bearing_b172 (fX0_bearing_b27 n) x0 x1 x3 x4 σ16)))))))
set_option maxHeartbeats 2000000 in
theorem sX0_bearing_b27 {G : GP} {n0 : Nat} : ∀ (n : Nat) (x0 : Nat) (x1 : Int32) (x3 : Int32) (x4 : Int32) (σ : Sto), Sim G mX0_bearing 3 0 0 n0 jI 0 0 27 [(0, .ref x0), (1, .int x1), (3, .int x3), (4, .int x4)] [] σ (fX0_bearing_b27 n x0 x1 x3 x4 σ) := by
  intro n
  induction n with
  | zero => intros; rw [fX0_bearing_b27]; exact hj_none
  | succ n ih =>
    intro x0 x1 x3 x4 σ
    rw [fX0_bearing_b27]
    refine hj_iload 3 dX0_bearing_27 rfl ?_
    refine hj_aload_n 0 dX0_bearing_29 rfl ?_
    refine hj_getR flX0_29 dX0_bearing_30 (fun t13 _ => ?_)
    refine hj_getI flX0_33 dX0_bearing_33 (fun t14 _ => ?_)
    refine hj_icmp_ge 178 dX0_bearing_36 (by decide) (fun _ => ?_) (fun _ => ?_)
    · refine hj_loc (lv' := [(0, .ref x0)]) [0] rfl ?_
      exact sX0_bearing_b178 _ _
    · refine hj_aload_n 0 dX0_bearing_39 rfl ?_
      refine hj_getR flX0_29 dX0_bearing_40 (fun t15 _ => ?_)
      refine hj_iload 3 dX0_bearing_43 rfl ?_
      refine hj_callV (ci := 5) (M' := mX5_isHeldByGlue) (h' := 1) (As := [.int x4]) mfX5_isHeldByGlue mvX5_isHeldByGlue ⟨_, _, rfl⟩ mlX0_69 dX0_bearing_45 (kX5_isHeldByGlue G _ _ _) (fun _ hr => cX5_isHeldByGluek hr) ⟨Nat.le_of_ble_eq_true rfl, Nat.le_of_ble_eq_true rfl⟩ ⟨Nat.le_refl _, Nat.le_refl _⟩ rfl (Nat.le_of_ble_eq_true rfl) (fun r17 σ16 _ => ?_)
      refine hj_if_ne 172 dX0_bearing_48 (by decide) (fun _ => ?_) (fun _ => ?_)
      · refine hj_loc (lv' := [(0, .ref x0), (1, .int x1), (3, .int x3), (4, .int x4)]) [0, 1, 2, 3] rfl ?_
        exact sX0_bearing_b172 ih _ _ _ _ _
      · refine hj_aload_n 0 dX0_bearing_51 rfl ?_
        refine hj_getR flX0_29 dX0_bearing_52 (fun t18 _ => ?_)
        refine hj_aload_n 0 dX0_bearing_55 rfl ?_
        refine hj_getR flX0_25 dX0_bearing_56 (fun t19 _ => ?_)
        refine hj_iload 3 dX0_bearing_59 rfl ?_
        refine hj_callV (ci := 5) (M' := mX5_restLeft) (h' := 2) (As := [.ref t19, .int x4]) mfX5_restLeft mvX5_restLeft ⟨_, _, rfl⟩ mlX0_72 dX0_bearing_61 (kX5_restLeft G _ _ _ _) (fun _ hr => cX5_restLeftk hr) ⟨Nat.le_of_ble_eq_true rfl, Nat.le_of_ble_eq_true rfl⟩ ⟨Nat.le_refl _, Nat.le_refl _⟩ rfl (Nat.le_of_ble_eq_true rfl) (fun r21 σ20 _ => ?_)
        refine hj_istore (lv' := [(0, .ref x0), (1, .int x1), (3, .int x3), (4, .int x4), (5, .int r21)]) dX0_bearing_64 (by decide) [1, 2, 3, 4, 0] rfl ?_
        refine hj_aload_n 0 dX0_bearing_66 rfl ?_
        refine hj_getR flX0_29 dX0_bearing_67 (fun t22 _ => ?_)
        refine hj_aload_n 0 dX0_bearing_70 rfl ?_
        refine hj_getR flX0_25 dX0_bearing_71 (fun t23 _ => ?_)
        refine hj_iload 3 dX0_bearing_74 rfl ?_
        refine hj_callV (ci := 5) (M' := mX5_restRight) (h' := 2) (As := [.ref t23, .int x4]) mfX5_restRight mvX5_restRight ⟨_, _, rfl⟩ mlX0_75 dX0_bearing_76 (kX5_restRight G _ _ _ _) (fun _ hr => cX5_restRightk hr) ⟨Nat.le_of_ble_eq_true rfl, Nat.le_of_ble_eq_true rfl⟩ ⟨Nat.le_refl _, Nat.le_refl _⟩ rfl (Nat.le_of_ble_eq_true rfl) (fun r25 σ24 _ => ?_)
        refine hj_istore (lv' := [(0, .ref x0), (1, .int x1), (3, .int x3), (4, .int x4), (5, .int r21), (6, .int r25)]) dX0_bearing_79 (by decide) [1, 2, 3, 4, 5, 0] rfl ?_
        refine hj_iload 3 dX0_bearing_81 rfl ?_
        refine hj_iload_n 1 dX0_bearing_83 rfl ?_
        refine hj_icmp_gt 91 dX0_bearing_84 (by decide) (fun _ => ?_) (fun _ => ?_)
        · refine hj_iconst (0 : Int32) dX0_bearing_91 (by decide) ?_
          refine hj_loc (lv' := [(0, .ref x0), (1, .int x1), (3, .int x3), (4, .int x4), (5, .int r21), (6, .int r25)]) [0, 1, 2, 3, 4, 5] rfl ?_
          exact sX0_bearing_b92 ih _ _ _ _ _ _ _ _
        · refine hj_iconst (1 : Int32) dX0_bearing_87 (by decide) ?_
          refine hj_goto 92 dX0_bearing_88 (by decide) ?_
          refine hj_loc (lv' := [(0, .ref x0), (1, .int x1), (3, .int x3), (4, .int x4), (5, .int r21), (6, .int r25)]) [0, 1, 2, 3, 4, 5] rfl ?_
          exact sX0_bearing_b92 ih _ _ _ _ _ _ _ _
def fX0_bearing (a0 : Nat) (a1 : Int32) (a2 : Int32) (σ : Sto) : Option (Int32 × Sto) := ck σ 0 a0 ((pV σ 0 a0 4 (.int ((0 : Int32)))).bind fun σ26 => ((pV σ26 0 a0 5 (.int ((9999 : Int32)))).bind fun σ27 => ((gR σ27 0 a0 1).bind fun t28 => ((gR σ27 5 t28 2).bind fun t29 => ((aI σ27 2 t29 a1).bind fun t30 => (lt ((t30 + a2)) fun v31 => (fX0_bearing_b27 FU a0 a1 v31 ((0 : Int32)) σ27)))))))
set_option maxHeartbeats 2000000 in
theorem kX0_bearing (G : GP) (a0 : Nat) (a1 : Int32) (a2 : Int32) (σ : Sto) : Me G mX0_bearing 3 0 0 jI [.ref a0, .int a1, .int a2] σ (fX0_bearing a0 a1 a2 σ) := by
  refine hs_me (lv := [(0, .ref a0), (1, .int a1), (2, .int a2)]) (plainFor_of_name (by decide +kernel)) (Nat.le_of_ble_eq_true rfl) rfl ?_
  unfold fX0_bearing
  refine hj_ck ?_
  refine hj_aload_n 0 dX0_bearing_0 rfl ?_
  refine hj_iconst (0 : Int32) dX0_bearing_1 (by decide) ?_
  refine hj_put (fpX0_18 _) (fun _ => rfl) (fun _ => rfl) dX0_bearing_2 (fun σ26 _ => ?_)
  refine hj_aload_n 0 dX0_bearing_5 rfl ?_
  refine hj_sipush (9999 : Int32) dX0_bearing_6 (by decide) ?_
  refine hj_put (fpX0_22 _) (fun _ => rfl) (fun _ => rfl) dX0_bearing_9 (fun σ27 _ => ?_)
  refine hj_aload_n 0 dX0_bearing_12 rfl ?_
  refine hj_getR flX0_29 dX0_bearing_13 (fun t28 _ => ?_)
  refine hj_getR flX0_81 dX0_bearing_16 (fun t29 _ => ?_)
  refine hj_iload_n 1 dX0_bearing_19 rfl ?_
  refine hj_iald dX0_bearing_20 (fun t30 _ => ?_)
  refine hj_iload_n 2 dX0_bearing_21 rfl ?_
  refine hj_iadd dX0_bearing_22 ?_
  refine hj_ltI (fun v31 _ => ?_)
  refine hj_istore_n (lv' := [(0, .ref a0), (1, .int a1), (2, .int a2), (3, .int v31)]) dX0_bearing_23 (by decide) [1, 2, 3, 0] rfl ?_
  refine hj_iconst (0 : Int32) dX0_bearing_24 (by decide) ?_
  refine hj_istore (lv' := [(0, .ref a0), (1, .int a1), (2, .int a2), (3, .int v31), (4, .int (0 : Int32))]) dX0_bearing_25 (by decide) [1, 2, 3, 4, 0] rfl ?_
  refine hj_loc (lv' := [(0, .ref a0), (1, .int a1), (3, .int v31), (4, .int (0 : Int32))]) [0, 1, 3, 4] rfl ?_
  exact sX0_bearing_b27 _ _ _ _ _ _
theorem cX0_bearingk {a0 : Nat} {a1 : Int32} {a2 : Int32} {σ : Sto} {r : Int32 × Sto} (h : fX0_bearing a0 a1 a2 σ = some r) : ∃ fs, hs_o σ 0 a0 = some fs := (ck_of h).1
def fX10_empty (a0 : Nat) (σ : Sto) : Option (Unit × Sto) := ck σ 10 a0 ((pV σ 10 a0 0 (.int ((0 : Int32)))).bind fun σ1 => ((pV σ1 10 a0 5 (.int ((0 : Int32)))).bind fun σ2 => ((pV σ2 10 a0 9 (.int ((100 : Int32)))).bind fun σ3 => ((pV σ3 10 a0 10 (.int ((0 : Int32)))).bind fun σ4 => ((gR σ4 10 a0 14).bind fun t5 => ((pV σ4 5 t5 0 (.int ((0 : Int32)))).bind fun σ6 => (some ((), σ6))))))))
set_option maxHeartbeats 2000000 in
theorem kX10_empty (G : GP) (a0 : Nat) (σ : Sto) : Me G mX10_empty 1 0 0 jV [.ref a0] σ (fX10_empty a0 σ) := by
  refine hs_me (lv := [(0, .ref a0)]) (plainFor_of_name (by decide +kernel)) (Nat.le_of_ble_eq_true rfl) rfl ?_
  unfold fX10_empty
  refine hj_ck ?_
  refine hj_aload_n 0 dX10_empty_0 rfl ?_
  refine hj_iconst (0 : Int32) dX10_empty_1 (by decide) ?_
  refine hj_put (fpX10_9 _) (fun _ => rfl) (fun _ => rfl) dX10_empty_2 (fun σ1 _ => ?_)
  refine hj_aload_n 0 dX10_empty_5 rfl ?_
  refine hj_iconst (0 : Int32) dX10_empty_6 (by decide) ?_
  refine hj_put (fpX10_29 _) (fun _ => rfl) (fun _ => rfl) dX10_empty_7 (fun σ2 _ => ?_)
  refine hj_aload_n 0 dX10_empty_10 rfl ?_
  refine hj_bipush (100 : Int32) dX10_empty_11 (by decide) ?_
  refine hj_put (fpX10_41 _) (fun _ => rfl) (fun _ => rfl) dX10_empty_13 (fun σ3 _ => ?_)
  refine hj_aload_n 0 dX10_empty_16 rfl ?_
  refine hj_iconst (0 : Int32) dX10_empty_17 (by decide) ?_
  refine hj_put (fpX10_44 _) (fun _ => rfl) (fun _ => rfl) dX10_empty_18 (fun σ4 _ => ?_)
  refine hj_aload_n 0 dX10_empty_21 rfl ?_
  refine hj_getR flX10_59 dX10_empty_22 (fun t5 _ => ?_)
  refine hj_iconst (0 : Int32) dX10_empty_25 (by decide) ?_
  refine hj_put (fpX10_63 _) (fun _ => rfl) (fun _ => rfl) dX10_empty_26 (fun σ6 _ => ?_)
  exact hj_vret dX10_empty_29 rfl rfl (Nat.le_refl _)
theorem cX10_emptyk {a0 : Nat} {σ : Sto} {r : Unit × Sto} (h : fX10_empty a0 σ = some r) : ∃ fs, hs_o σ 10 a0 = some fs := (ck_of h).1
def fX10_bookNamed_b2 : Nat → Nat → Int64 → Int32 → Sto → Option (Int32 × Sto)
  | 0, _, _, _, _ => none
  | n + 1, x0, x1, x3, σ => ((gI σ 10 x0 0).bind fun t1 => (if t1 ≤ x3 then (some ((-1 : Int32), σ)) else ((gR σ 10 x0 1).bind fun t2 => ((aL σ 3 t2 x3).bind fun t3 => (if (lg_cmp t3 x1) = 0 then (some (x3, σ)) else (fX10_bookNamed_b2 n x0 x1 (x3 + (1 : Int32)) σ))))))
set_option maxHeartbeats 2000000 in
theorem sX10_bookNamed_b2 {G : GP} {n0 : Nat} : ∀ (n : Nat) (x0 : Nat) (x1 : Int64) (x3 : Int32) (σ : Sto), Sim G mX10_bookNamed 1 0 0 n0 jI 0 0 2 [(0, .ref x0), (1, .long x1), (3, .int x3)] [] σ (fX10_bookNamed_b2 n x0 x1 x3 σ) := by
  intro n
  induction n with
  | zero => intros; rw [fX10_bookNamed_b2]; exact hj_none
  | succ n ih =>
    intro x0 x1 x3 σ
    rw [fX10_bookNamed_b2]
    refine hj_iload_n 2 dX10_bookNamed_2 rfl ?_
    refine hj_aload_n 0 dX10_bookNamed_3 rfl ?_
    refine hj_getI flX10_9 dX10_bookNamed_4 (fun t1 _ => ?_)
    refine hj_icmp_ge 29 dX10_bookNamed_7 (by decide) (fun _ => ?_) (fun _ => ?_)
    · refine hj_iconst (-1 : Int32) dX10_bookNamed_29 (by decide) ?_
      exact hj_iret dX10_bookNamed_30 rfl rfl (Nat.le_refl _)
    · refine hj_aload_n 0 dX10_bookNamed_10 rfl ?_
      refine hj_getR flX10_15 dX10_bookNamed_11 (fun t2 _ => ?_)
      refine hj_iload_n 2 dX10_bookNamed_14 rfl ?_
      refine hj_lald dX10_bookNamed_15 (fun t3 _ => ?_)
      refine hj_lload_n 1 dX10_bookNamed_16 rfl ?_
      refine hj_lcmp dX10_bookNamed_17 ?_
      refine hj_if_ne 23 dX10_bookNamed_18 (by decide) (fun _ => ?_) (fun _ => ?_)
      · refine hj_iinc (lv' := [(0, .ref x0), (1, .long x1), (3, .int (x3 + (1 : Int32)))]) 2 (1 : Int32) dX10_bookNamed_23 rfl (by decide) (by decide) [1, 2, 0] rfl ?_
        refine hj_goto 2 dX10_bookNamed_26 (by decide) ?_
        refine hj_loc (lv' := [(0, .ref x0), (1, .long x1), (3, .int (x3 + (1 : Int32)))]) [0, 1, 2] rfl ?_
        exact ih _ _ _ _
      · refine hj_iload_n 2 dX10_bookNamed_21 rfl ?_
        exact hj_iret dX10_bookNamed_22 rfl rfl (Nat.le_refl _)
def fX10_bookNamed (a0 : Nat) (a1 : Int64) (σ : Sto) : Option (Int32 × Sto) := ck σ 10 a0 (fX10_bookNamed_b2 FU a0 a1 ((0 : Int32)) σ)
set_option maxHeartbeats 2000000 in
theorem kX10_bookNamed (G : GP) (a0 : Nat) (a1 : Int64) (σ : Sto) : Me G mX10_bookNamed 1 0 0 jI [.ref a0, .long a1] σ (fX10_bookNamed a0 a1 σ) := by
  refine hs_me (lv := [(0, .ref a0), (1, .long a1)]) (plainFor_of_name (by decide +kernel)) (Nat.le_of_ble_eq_true rfl) rfl ?_
  unfold fX10_bookNamed
  refine hj_ck ?_
  refine hj_iconst (0 : Int32) dX10_bookNamed_0 (by decide) ?_
  refine hj_istore_n (lv' := [(0, .ref a0), (1, .long a1), (3, .int (0 : Int32))]) dX10_bookNamed_1 (by decide) [1, 2, 0] rfl ?_
  refine hj_loc (lv' := [(0, .ref a0), (1, .long a1), (3, .int (0 : Int32))]) [0, 1, 2] rfl ?_
  exact sX10_bookNamed_b2 _ _ _ _ _
theorem cX10_bookNamedk {a0 : Nat} {a1 : Int64} {σ : Sto} {r : Int32 × Sto} (h : fX10_bookNamed a0 a1 σ = some r) : ∃ fs, hs_o σ 10 a0 = some fs := (ck_of h).1
def fX10_addBook (a0 : Nat) (a1 : Int64) (a2 : Int32) (a3 : Int32) (σ : Sto) : Option (Unit × Sto) := ck σ 10 a0 ((gI σ 10 a0 0).bind fun t1 => (if (6 : Int32) ≤ t1 then (some ((), σ)) else ((gR σ 10 a0 1).bind fun t2 => ((gI σ 10 a0 0).bind fun t3 => ((sL σ 3 t2 t3 a1).bind fun σ4 => ((gR σ4 10 a0 2).bind fun t5 => ((gI σ4 10 a0 0).bind fun t6 => ((sI σ4 2 t5 t6 a2).bind fun σ7 => ((gR σ7 10 a0 3).bind fun t8 => ((gI σ7 10 a0 0).bind fun t9 => ((sI σ7 2 t8 t9 a3).bind fun σ10 => ((gR σ10 10 a0 4).bind fun t11 => ((gI σ10 10 a0 0).bind fun t12 => ((sI σ10 2 t11 t12 ((-1 : Int32))).bind fun σ13 => ((gR σ13 10 a0 12).bind fun t14 => ((gI σ13 10 a0 0).bind fun t15 => ((sI σ13 2 t14 t15 ((0 : Int32))).bind fun σ16 => ((gR σ16 10 a0 13).bind fun t17 => ((gI σ16 10 a0 0).bind fun t18 => ((sI σ16 2 t17 t18 ((0 : Int32))).bind fun σ19 => ((gI σ19 10 a0 0).bind fun t20 => ((pV σ19 10 a0 0 (.int ((t20 + ((1 : Int32)))))).bind fun σ21 => (some ((), σ21))))))))))))))))))))))))
set_option maxHeartbeats 2000000 in
theorem kX10_addBook (G : GP) (a0 : Nat) (a1 : Int64) (a2 : Int32) (a3 : Int32) (σ : Sto) : Me G mX10_addBook 1 0 0 jV [.ref a0, .long a1, .int a2, .int a3] σ (fX10_addBook a0 a1 a2 a3 σ) := by
  refine hs_me (lv := [(0, .ref a0), (1, .long a1), (3, .int a2), (4, .int a3)]) (plainFor_of_name (by decide +kernel)) (Nat.le_of_ble_eq_true rfl) rfl ?_
  unfold fX10_addBook
  refine hj_ck ?_
  refine hj_aload_n 0 dX10_addBook_0 rfl ?_
  refine hj_getI flX10_9 dX10_addBook_1 (fun t1 _ => ?_)
  refine hj_bipush (6 : Int32) dX10_addBook_4 (by decide) ?_
  refine hj_icmp_ge 80 dX10_addBook_6 (by decide) (fun _ => ?_) (fun _ => ?_)
  · exact hj_vret dX10_addBook_80 rfl rfl (Nat.le_refl _)
  · refine hj_aload_n 0 dX10_addBook_9 rfl ?_
    refine hj_getR flX10_15 dX10_addBook_10 (fun t2 _ => ?_)
    refine hj_aload_n 0 dX10_addBook_13 rfl ?_
    refine hj_getI flX10_9 dX10_addBook_14 (fun t3 _ => ?_)
    refine hj_lload_n 1 dX10_addBook_17 rfl ?_
    refine hj_last dX10_addBook_18 (fun σ4 _ => ?_)
    refine hj_aload_n 0 dX10_addBook_19 rfl ?_
    refine hj_getR flX10_19 dX10_addBook_20 (fun t5 _ => ?_)
    refine hj_aload_n 0 dX10_addBook_23 rfl ?_
    refine hj_getI flX10_9 dX10_addBook_24 (fun t6 _ => ?_)
    refine hj_iload_n 2 dX10_addBook_27 rfl ?_
    refine hj_iast dX10_addBook_28 (fun σ7 _ => ?_)
    refine hj_aload_n 0 dX10_addBook_29 rfl ?_
    refine hj_getR flX10_23 dX10_addBook_30 (fun t8 _ => ?_)
    refine hj_aload_n 0 dX10_addBook_33 rfl ?_
    refine hj_getI flX10_9 dX10_addBook_34 (fun t9 _ => ?_)
    refine hj_iload 3 dX10_addBook_37 rfl ?_
    refine hj_iast dX10_addBook_39 (fun σ10 _ => ?_)
    refine hj_aload_n 0 dX10_addBook_40 rfl ?_
    refine hj_getR flX10_26 dX10_addBook_41 (fun t11 _ => ?_)
    refine hj_aload_n 0 dX10_addBook_44 rfl ?_
    refine hj_getI flX10_9 dX10_addBook_45 (fun t12 _ => ?_)
    refine hj_iconst (-1 : Int32) dX10_addBook_48 (by decide) ?_
    refine hj_iast dX10_addBook_49 (fun σ13 _ => ?_)
    refine hj_aload_n 0 dX10_addBook_50 rfl ?_
    refine hj_getR flX10_50 dX10_addBook_51 (fun t14 _ => ?_)
    refine hj_aload_n 0 dX10_addBook_54 rfl ?_
    refine hj_getI flX10_9 dX10_addBook_55 (fun t15 _ => ?_)
    refine hj_iconst (0 : Int32) dX10_addBook_58 (by decide) ?_
    refine hj_iast dX10_addBook_59 (fun σ16 _ => ?_)
    refine hj_aload_n 0 dX10_addBook_60 rfl ?_
    refine hj_getR flX10_53 dX10_addBook_61 (fun t17 _ => ?_)
    refine hj_aload_n 0 dX10_addBook_64 rfl ?_
    refine hj_getI flX10_9 dX10_addBook_65 (fun t18 _ => ?_)
    refine hj_iconst (0 : Int32) dX10_addBook_68 (by decide) ?_
    refine hj_iast dX10_addBook_69 (fun σ19 _ => ?_)
    refine hj_aload_n 0 dX10_addBook_70 rfl ?_
    refine hj_dup dX10_addBook_71 rfl ?_
    refine hj_getI flX10_9 dX10_addBook_72 (fun t20 _ => ?_)
    refine hj_iconst (1 : Int32) dX10_addBook_75 (by decide) ?_
    refine hj_iadd dX10_addBook_76 ?_
    refine hj_put (fpX10_9 _) (fun _ => rfl) (fun _ => rfl) dX10_addBook_77 (fun σ21 _ => ?_)
    exact hj_vret dX10_addBook_80 rfl rfl (Nat.le_refl _)
theorem cX10_addBookk {a0 : Nat} {a1 : Int64} {a2 : Int32} {a3 : Int32} {σ : Sto} {r : Unit × Sto} (h : fX10_addBook a0 a1 a2 a3 σ = some r) : ∃ fs, hs_o σ 10 a0 = some fs := (ck_of h).1
def fX10_addFly (a0 : Nat) (a1 : Int32) (a2 : Int32) (a3 : Int32) (σ : Sto) : Option (Unit × Sto) := ck σ 10 a0 ((gI σ 10 a0 10).bind fun t1 => (if (6 : Int32) ≤ t1 then (some ((), σ)) else (if a2 < 0 then (some ((), σ)) else ((gI σ 10 a0 0).bind fun t2 => (if t2 ≤ a2 then (some ((), σ)) else ((gR σ 10 a0 11).bind fun t3 => ((gI σ 10 a0 10).bind fun t4 => ((sI σ 2 t3 t4 a2).bind fun σ5 => ((gR σ5 10 a0 12).bind fun t6 => ((aI σ5 2 t6 a2).bind fun t7 => ((sI σ5 2 t6 a2 ((t7 + a1))).bind fun σ8 => ((gR σ8 10 a0 13).bind fun t9 => ((aI σ8 2 t9 a2).bind fun t10 => ((sI σ8 2 t9 a2 ((t10 + ((a1 * a3))))).bind fun σ11 => ((gI σ11 10 a0 10).bind fun t12 => ((pV σ11 10 a0 10 (.int ((t12 + ((1 : Int32)))))).bind fun σ13 => (some ((), σ13))))))))))))))))))
set_option maxHeartbeats 2000000 in
theorem kX10_addFly (G : GP) (a0 : Nat) (a1 : Int32) (a2 : Int32) (a3 : Int32) (σ : Sto) : Me G mX10_addFly 1 0 0 jV [.ref a0, .int a1, .int a2, .int a3] σ (fX10_addFly a0 a1 a2 a3 σ) := by
  refine hs_me (lv := [(0, .ref a0), (1, .int a1), (2, .int a2), (3, .int a3)]) (plainFor_of_name (by decide +kernel)) (Nat.le_of_ble_eq_true rfl) rfl ?_
  unfold fX10_addFly
  refine hj_ck ?_
  refine hj_aload_n 0 dX10_addFly_0 rfl ?_
  refine hj_getI flX10_44 dX10_addFly_1 (fun t1 _ => ?_)
  refine hj_bipush (6 : Int32) dX10_addFly_4 (by decide) ?_
  refine hj_icmp_ge 63 dX10_addFly_6 (by decide) (fun _ => ?_) (fun _ => ?_)
  · exact hj_vret dX10_addFly_63 rfl rfl (Nat.le_refl _)
  · refine hj_iload_n 2 dX10_addFly_9 rfl ?_
    refine hj_if_lt 63 dX10_addFly_10 (by decide) (fun _ => ?_) (fun _ => ?_)
    · exact hj_vret dX10_addFly_63 rfl rfl (Nat.le_refl _)
    · refine hj_iload_n 2 dX10_addFly_13 rfl ?_
      refine hj_aload_n 0 dX10_addFly_14 rfl ?_
      refine hj_getI flX10_9 dX10_addFly_15 (fun t2 _ => ?_)
      refine hj_icmp_ge 63 dX10_addFly_18 (by decide) (fun _ => ?_) (fun _ => ?_)
      · exact hj_vret dX10_addFly_63 rfl rfl (Nat.le_refl _)
      · refine hj_aload_n 0 dX10_addFly_21 rfl ?_
        refine hj_getR flX10_47 dX10_addFly_22 (fun t3 _ => ?_)
        refine hj_aload_n 0 dX10_addFly_25 rfl ?_
        refine hj_getI flX10_44 dX10_addFly_26 (fun t4 _ => ?_)
        refine hj_iload_n 2 dX10_addFly_29 rfl ?_
        refine hj_iast dX10_addFly_30 (fun σ5 _ => ?_)
        refine hj_aload_n 0 dX10_addFly_31 rfl ?_
        refine hj_getR flX10_50 dX10_addFly_32 (fun t6 _ => ?_)
        refine hj_iload_n 2 dX10_addFly_35 rfl ?_
        refine hj_dup2 dX10_addFly_36 rfl rfl ?_
        refine hj_iald dX10_addFly_37 (fun t7 _ => ?_)
        refine hj_iload_n 1 dX10_addFly_38 rfl ?_
        refine hj_iadd dX10_addFly_39 ?_
        refine hj_iast dX10_addFly_40 (fun σ8 _ => ?_)
        refine hj_aload_n 0 dX10_addFly_41 rfl ?_
        refine hj_getR flX10_53 dX10_addFly_42 (fun t9 _ => ?_)
        refine hj_iload_n 2 dX10_addFly_45 rfl ?_
        refine hj_dup2 dX10_addFly_46 rfl rfl ?_
        refine hj_iald dX10_addFly_47 (fun t10 _ => ?_)
        refine hj_iload_n 1 dX10_addFly_48 rfl ?_
        refine hj_iload_n 3 dX10_addFly_49 rfl ?_
        refine hj_imul dX10_addFly_50 ?_
        refine hj_iadd dX10_addFly_51 ?_
        refine hj_iast dX10_addFly_52 (fun σ11 _ => ?_)
        refine hj_aload_n 0 dX10_addFly_53 rfl ?_
        refine hj_dup dX10_addFly_54 rfl ?_
        refine hj_getI flX10_44 dX10_addFly_55 (fun t12 _ => ?_)
        refine hj_iconst (1 : Int32) dX10_addFly_58 (by decide) ?_
        refine hj_iadd dX10_addFly_59 ?_
        refine hj_put (fpX10_44 _) (fun _ => rfl) (fun _ => rfl) dX10_addFly_60 (fun σ13 _ => ?_)
        exact hj_vret dX10_addFly_63 rfl rfl (Nat.le_refl _)
theorem cX10_addFlyk {a0 : Nat} {a1 : Int32} {a2 : Int32} {a3 : Int32} {σ : Sto} {r : Unit × Sto} (h : fX10_addFly a0 a1 a2 a3 σ = some r) : ∃ fs, hs_o σ 10 a0 = some fs := (ck_of h).1
def fX10_emit (a0 : Nat) (a1 : Int32) (a2 : Int32) (σ : Sto) : Option (Int32 × Sto) := ck σ 10 a0 ((gI σ 10 a0 5).bind fun t1 => (if t1 < (400 : Int32) then ((gR σ 10 a0 6).bind fun t2 => ((gI σ 10 a0 5).bind fun t3 => ((sI σ 2 t2 t3 a1).bind fun σ4 => ((gR σ4 10 a0 7).bind fun t5 => ((gI σ4 10 a0 5).bind fun t6 => ((sI σ4 2 t5 t6 a2).bind fun σ7 => ((gI σ7 10 a0 5).bind fun t8 => ((pV σ7 10 a0 5 (.int ((t8 + ((1 : Int32)))))).bind fun σ9 => ((gI σ9 10 a0 5).bind fun t10 => (some ((t10 - ((1 : Int32))), σ9))))))))))) else (some ((-1 : Int32), σ))))
set_option maxHeartbeats 2000000 in
theorem kX10_emit (G : GP) (a0 : Nat) (a1 : Int32) (a2 : Int32) (σ : Sto) : Me G mX10_emit 1 0 0 jI [.ref a0, .int a1, .int a2] σ (fX10_emit a0 a1 a2 σ) := by
  refine hs_me (lv := [(0, .ref a0), (1, .int a1), (2, .int a2)]) (plainFor_of_name (by decide +kernel)) (Nat.le_of_ble_eq_true rfl) rfl ?_
  unfold fX10_emit
  refine hj_ck ?_
  refine hj_aload_n 0 dX10_emit_0 rfl ?_
  refine hj_getI flX10_29 dX10_emit_1 (fun t1 _ => ?_)
  refine hj_sipush (400 : Int32) dX10_emit_4 (by decide) ?_
  refine hj_icmp_lt 12 dX10_emit_7 (by decide) (fun _ => ?_) (fun _ => ?_)
  · refine hj_aload_n 0 dX10_emit_12 rfl ?_
    refine hj_getR flX10_32 dX10_emit_13 (fun t2 _ => ?_)
    refine hj_aload_n 0 dX10_emit_16 rfl ?_
    refine hj_getI flX10_29 dX10_emit_17 (fun t3 _ => ?_)
    refine hj_iload_n 1 dX10_emit_20 rfl ?_
    refine hj_iast dX10_emit_21 (fun σ4 _ => ?_)
    refine hj_aload_n 0 dX10_emit_22 rfl ?_
    refine hj_getR flX10_35 dX10_emit_23 (fun t5 _ => ?_)
    refine hj_aload_n 0 dX10_emit_26 rfl ?_
    refine hj_getI flX10_29 dX10_emit_27 (fun t6 _ => ?_)
    refine hj_iload_n 2 dX10_emit_30 rfl ?_
    refine hj_iast dX10_emit_31 (fun σ7 _ => ?_)
    refine hj_aload_n 0 dX10_emit_32 rfl ?_
    refine hj_dup dX10_emit_33 rfl ?_
    refine hj_getI flX10_29 dX10_emit_34 (fun t8 _ => ?_)
    refine hj_iconst (1 : Int32) dX10_emit_37 (by decide) ?_
    refine hj_iadd dX10_emit_38 ?_
    refine hj_put (fpX10_29 _) (fun _ => rfl) (fun _ => rfl) dX10_emit_39 (fun σ9 _ => ?_)
    refine hj_aload_n 0 dX10_emit_42 rfl ?_
    refine hj_getI flX10_29 dX10_emit_43 (fun t10 _ => ?_)
    refine hj_iconst (1 : Int32) dX10_emit_46 (by decide) ?_
    refine hj_isub dX10_emit_47 ?_
    exact hj_iret dX10_emit_48 rfl rfl (Nat.le_refl _)
  · refine hj_iconst (-1 : Int32) dX10_emit_10 (by decide) ?_
    exact hj_iret dX10_emit_11 rfl rfl (Nat.le_refl _)
theorem cX10_emitk {a0 : Nat} {a1 : Int32} {a2 : Int32} {σ : Sto} {r : Int32 × Sto} (h : fX10_emit a0 a1 a2 σ = some r) : ∃ fs, hs_o σ 10 a0 = some fs := (ck_of h).1
def fX10_aim (a0 : Nat) (a1 : Int32) (σ : Sto) : Option (Unit × Sto) := ck σ 10 a0 (if a1 < 0 then (some ((), σ)) else ((gI σ 10 a0 5).bind fun t1 => (if t1 ≤ a1 then (some ((), σ)) else ((gR σ 10 a0 7).bind fun t2 => ((gI σ 10 a0 5).bind fun t3 => ((sI σ 2 t2 a1 t3).bind fun σ4 => (some ((), σ4))))))))
set_option maxHeartbeats 2000000 in
theorem kX10_aim (G : GP) (a0 : Nat) (a1 : Int32) (σ : Sto) : Me G mX10_aim 1 0 0 jV [.ref a0, .int a1] σ (fX10_aim a0 a1 σ) := by
  refine hs_me (lv := [(0, .ref a0), (1, .int a1)]) (plainFor_of_name (by decide +kernel)) (Nat.le_of_ble_eq_true rfl) rfl ?_
  unfold fX10_aim
  refine hj_ck ?_
  refine hj_iload_n 1 dX10_aim_0 rfl ?_
  refine hj_if_lt 22 dX10_aim_1 (by decide) (fun _ => ?_) (fun _ => ?_)
  · exact hj_vret dX10_aim_22 rfl rfl (Nat.le_refl _)
  · refine hj_iload_n 1 dX10_aim_4 rfl ?_
    refine hj_aload_n 0 dX10_aim_5 rfl ?_
    refine hj_getI flX10_29 dX10_aim_6 (fun t1 _ => ?_)
    refine hj_icmp_ge 22 dX10_aim_9 (by decide) (fun _ => ?_) (fun _ => ?_)
    · exact hj_vret dX10_aim_22 rfl rfl (Nat.le_refl _)
    · refine hj_aload_n 0 dX10_aim_12 rfl ?_
      refine hj_getR flX10_35 dX10_aim_13 (fun t2 _ => ?_)
      refine hj_iload_n 1 dX10_aim_16 rfl ?_
      refine hj_aload_n 0 dX10_aim_17 rfl ?_
      refine hj_getI flX10_29 dX10_aim_18 (fun t3 _ => ?_)
      refine hj_iast dX10_aim_21 (fun σ4 _ => ?_)
      exact hj_vret dX10_aim_22 rfl rfl (Nat.le_refl _)
theorem cX10_aimk {a0 : Nat} {a1 : Int32} {σ : Sto} {r : Unit × Sto} (h : fX10_aim a0 a1 σ = some r) : ∃ fs, hs_o σ 10 a0 = some fs := (ck_of h).1
