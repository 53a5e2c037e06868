def fX9_isDigit (a0 : Int32) (σ : Sto) : Option (Int32 × Sto) := (if a0 < (48 : Int32) then (some ((0 : Int32), σ)) else (if (57 : Int32) < a0 then (some ((0 : Int32), σ)) else (some ((1 : Int32), σ))))
set_option maxHeartbeats 2000000 in
theorem kX9_isDigit (G : GP) (a0 : Int32) (σ : Sto) : Me G mX9_isDigit 1 0 0 jI [.int a0] σ (fX9_isDigit a0 σ) := by
  refine hs_me (lv := [(0, .int a0)]) (plainFor_of_name (by decide +kernel)) (Nat.le_of_ble_eq_true rfl) rfl ?_
  unfold fX9_isDigit
  refine hj_iload_n 0 dX9_isDigit_0 rfl ?_
  refine hj_bipush (48 : Int32) dX9_isDigit_1 (by decide) ?_
  refine hj_icmp_lt 16 dX9_isDigit_3 (by decide) (fun _ => ?_) (fun _ => ?_)
  · refine hj_iconst (0 : Int32) dX9_isDigit_16 (by decide) ?_
    exact hj_zret dX9_isDigit_17 rfl (by decide) rfl (Nat.le_refl _)
  · refine hj_iload_n 0 dX9_isDigit_6 rfl ?_
    refine hj_bipush (57 : Int32) dX9_isDigit_7 (by decide) ?_
    refine hj_icmp_gt 16 dX9_isDigit_9 (by decide) (fun _ => ?_) (fun _ => ?_)
    · refine hj_iconst (0 : Int32) dX9_isDigit_16 (by decide) ?_
      exact hj_zret dX9_isDigit_17 rfl (by decide) rfl (Nat.le_refl _)
    · refine hj_iconst (1 : Int32) dX9_isDigit_12 (by decide) ?_
      refine hj_goto 17 dX9_isDigit_13 (by decide) ?_
      exact hj_zret dX9_isDigit_17 rfl (by decide) rfl (Nat.le_refl _)
def fX9_isLetter (a0 : Int32) (σ : Sto) : Option (Int32 × Sto) := (if a0 < (97 : Int32) then (some ((0 : Int32), σ)) else (if (122 : Int32) < a0 then (some ((0 : Int32), σ)) else (some ((1 : Int32), σ))))
set_option maxHeartbeats 2000000 in
theorem kX9_isLetter (G : GP) (a0 : Int32) (σ : Sto) : Me G mX9_isLetter 1 0 0 jI [.int a0] σ (fX9_isLetter a0 σ) := by
  refine hs_me (lv := [(0, .int a0)]) (plainFor_of_name (by decide +kernel)) (Nat.le_of_ble_eq_true rfl) rfl ?_
  unfold fX9_isLetter
  refine hj_iload_n 0 dX9_isLetter_0 rfl ?_
  refine hj_bipush (97 : Int32) dX9_isLetter_1 (by decide) ?_
  refine hj_icmp_lt 16 dX9_isLetter_3 (by decide) (fun _ => ?_) (fun _ => ?_)
  · refine hj_iconst (0 : Int32) dX9_isLetter_16 (by decide) ?_
    exact hj_zret dX9_isLetter_17 rfl (by decide) rfl (Nat.le_refl _)
  · refine hj_iload_n 0 dX9_isLetter_6 rfl ?_
    refine hj_bipush (122 : Int32) dX9_isLetter_7 (by decide) ?_
    refine hj_icmp_gt 16 dX9_isLetter_9 (by decide) (fun _ => ?_) (fun _ => ?_)
    · refine hj_iconst (0 : Int32) dX9_isLetter_16 (by decide) ?_
      exact hj_zret dX9_isLetter_17 rfl (by decide) rfl (Nat.le_refl _)
    · refine hj_iconst (1 : Int32) dX9_isLetter_12 (by decide) ?_
      refine hj_goto 17 dX9_isLetter_13 (by decide) ?_
      exact hj_zret dX9_isLetter_17 rfl (by decide) rfl (Nat.le_refl _)
def fX9_endOfRun_b55 (K20 : Nat → Int32 → Int32 → Int32 → Int32 → Sto → Option (Int32 × Sto)) (x0 : Nat) (x2 : Int32) (x3 : Int32) (x4 : Int32) (x5 : Int32) (σ : Sto) : Option (Int32 × Sto) := (K20 x0 x2 x3 x4 (x5 + (1 : Int32)) σ)
set_option maxHeartbeats 2000000 in
theorem sX9_endOfRun_b55 {G : GP} {n0 : Nat} {K20 : Nat → Int32 → Int32 → Int32 → Int32 → Sto → Option (Int32 × Sto)} (hK20 : ∀ (x0 : Nat) (x2 : Int32) (x3 : Int32) (x4 : Int32) (x5 : Int32) (σ : Sto), Sim G mX9_endOfRun 2 0 0 n0 jI 0 0 20 [(0, .ref x0), (2, .int x2), (3, .int x3), (4, .int x4), (5, .int x5)] [] σ (K20 x0 x2 x3 x4 x5 σ)) : ∀ (x0 : Nat) (x2 : Int32) (x3 : Int32) (x4 : Int32) (x5 : Int32) (σ : Sto), Sim G mX9_endOfRun 2 0 0 n0 jI 0 0 55 [(0, .ref x0), (2, .int x2), (3, .int x3), (4, .int x4), (5, .int x5)] [] σ (fX9_endOfRun_b55 K20 x0 x2 x3 x4 x5 σ) := by
  intro x0 x2 x3 x4 x5 σ
  unfold fX9_endOfRun_b55
  refine hj_iinc (lv' := [(0, .ref x0), (2, .int x2), (3, .int x3), (4, .int x4), (5, .int (x5 + (1 : Int32)))]) 4 (1 : Int32) dX9_endOfRun_55 rfl (by decide) (by decide) [1, 2, 3, 4, 0] rfl ?_
  refine hj_goto 20 dX9_endOfRun_58 (by decide) ?_
  refine hj_loc (lv' := [(0, .ref x0), (2, .int x2), (3, .int x3), (4, .int x4), (5, .int (x5 + (1 : Int32)))]) [0, 1, 2, 3, 4] rfl ?_
  exact hK20 _ _ _ _ _ _
def fX9_endOfRun_b40 (K20 : Nat → Int32 → Int32 → Int32 → Int32 → Sto → Option (Int32 × Sto)) (x0 : Nat) (x2 : Int32) (x3 : Int32) (x4 : Int32) (x5 : Int32) (σ : Sto) : Option (Int32 × Sto) := (if x4 = 0 then (some (x5, σ)) else ((aI σ 1 x0 x5).bind fun t1 => (cb (fX9_isDigit t1 σ) fun r3 σ2 => (if r3 = 0 then (some (x5, σ2)) else (fX9_endOfRun_b55 K20 x0 x2 x3 x4 x5 σ2)))))
set_option maxHeartbeats 2000000 in
theorem sX9_endOfRun_b40 {G : GP} {n0 : Nat} {K20 : Nat → Int32 → Int32 → Int32 → Int32 → Sto → Option (Int32 × Sto)} (hK20 : ∀ (x0 : Nat) (x2 : Int32) (x3 : Int32) (x4 : Int32) (x5 : Int32) (σ : Sto), Sim G mX9_endOfRun 2 0 0 n0 jI 0 0 20 [(0, .ref x0), (2, .int x2), (3, .int x3), (4, .int x4), (5, .int x5)] [] σ (K20 x0 x2 x3 x4 x5 σ)) : ∀ (x0 : Nat) (x2 : Int32) (x3 : Int32) (x4 : Int32) (x5 : Int32) (σ : Sto), Sim G mX9_endOfRun 2 0 0 n0 jI 0 0 40 [(0, .ref x0), (2, .int x2), (3, .int x3), (4, .int x4), (5, .int x5)] [] σ (fX9_endOfRun_b40 K20 x0 x2 x3 x4 x5 σ) := by
  intro x0 x2 x3 x4 x5 σ
  unfold fX9_endOfRun_b40
  refine hj_iload 3 dX9_endOfRun_40 rfl ?_
  refine hj_if_eq 61 dX9_endOfRun_42 (by decide) (fun _ => ?_) (fun _ => ?_)
  · refine hj_iload 4 dX9_endOfRun_61 rfl ?_
    exact hj_iret dX9_endOfRun_63 rfl rfl (Nat.le_refl _)
  · refine hj_aload_n 0 dX9_endOfRun_45 rfl ?_
    refine hj_iload 4 dX9_endOfRun_46 rfl ?_
    refine hj_cald dX9_endOfRun_48 (fun t1 _ => ?_)
    refine hj_callS (M' := mX9_isDigit) (h' := 1) (As := [.int t1]) mfX9_isDigit msX9_isDigit mlX9_60 dX9_endOfRun_49 (kX9_isDigit G _ _) ⟨Nat.le_of_ble_eq_true rfl, Nat.le_of_ble_eq_true rfl⟩ ⟨Nat.le_refl _, Nat.le_refl _⟩ rfl (Nat.le_of_ble_eq_true rfl) (fun r3 σ2 _ => ?_)
    refine hj_if_eq 61 dX9_endOfRun_52 (by decide) (fun _ => ?_) (fun _ => ?_)
    · refine hj_iload 4 dX9_endOfRun_61 rfl ?_
      exact hj_iret dX9_endOfRun_63 rfl rfl (Nat.le_refl _)
    · refine hj_loc (lv' := [(0, .ref x0), (2, .int x2), (3, .int x3), (4, .int x4), (5, .int x5)]) [0, 1, 2, 3, 4] rfl ?_
      exact sX9_endOfRun_b55 hK20 _ _ _ _ _ _
def fX9_endOfRun_b20 : Nat → Nat → Int32 → Int32 → Int32 → Int32 → Sto → Option (Int32 × Sto)
  | 0, _, _, _, _, _, _ => none
  | n + 1, x0, x2, x3, x4, x5, σ => (if x2 ≤ x5 then (some (x5, σ)) else (if x3 = 0 then (fX9_endOfRun_b40 (fX9_endOfRun_b20 n) x0 x2 x3 x4 x5 σ) else ((aI σ 1 x0 x5).bind fun t4 => (cb (fX9_isLetter t4 σ) fun r6 σ5 => (if r6 = 0 then (fX9_endOfRun_b40 (fX9_endOfRun_b20 n) x0 x2 x3 x4 x5 σ5) else (fX9_endOfRun_b55 (fX9_endOfRun_b20 n) x0 x2 x3 x4 x5 σ5))))))
set_option maxHeartbeats 2000000 in
theorem sX9_endOfRun_b20 {G : GP} {n0 : Nat} : ∀ (n : Nat) (x0 : Nat) (x2 : Int32) (x3 : Int32) (x4 : Int32) (x5 : Int32) (σ : Sto), Sim G mX9_endOfRun 2 0 0 n0 jI 0 0 20 [(0, .ref x0), (2, .int x2), (3, .int x3), (4, .int x4), (5, .int x5)] [] σ (fX9_endOfRun_b20 n x0 x2 x3 x4 x5 σ) := by
  intro n
  induction n with
  | zero => intros; rw [fX9_endOfRun_b20]; exact hj_none
  | succ n ih =>
    intro x0 x2 x3 x4 x5 σ
    rw [fX9_endOfRun_b20]
    refine hj_iload 4 dX9_endOfRun_20 rfl ?_
    refine hj_iload_n 1 dX9_endOfRun_22 rfl ?_
    refine hj_icmp_ge 61 dX9_endOfRun_23 (by decide) (fun _ => ?_) (fun _ => ?_)
    · refine hj_iload 4 dX9_endOfRun_61 rfl ?_
      exact hj_iret dX9_endOfRun_63 rfl rfl (Nat.le_refl _)
    · refine hj_iload_n 2 dX9_endOfRun_26 rfl ?_
      refine hj_if_eq 40 dX9_endOfRun_27 (by decide) (fun _ => ?_) (fun _ => ?_)
      · refine hj_loc (lv' := [(0, .ref x0), (2, .int x2), (3, .int x3), (4, .int x4), (5, .int x5)]) [0, 1, 2, 3, 4] rfl ?_
        exact sX9_endOfRun_b40 ih _ _ _ _ _ _
      · refine hj_aload_n 0 dX9_endOfRun_30 rfl ?_
        refine hj_iload 4 dX9_endOfRun_31 rfl ?_
        refine hj_cald dX9_endOfRun_33 (fun t4 _ => ?_)
        refine hj_callS (M' := mX9_isLetter) (h' := 1) (As := [.int t4]) mfX9_isLetter msX9_isLetter mlX9_57 dX9_endOfRun_34 (kX9_isLetter G _ _) ⟨Nat.le_of_ble_eq_true rfl, Nat.le_of_ble_eq_true rfl⟩ ⟨Nat.le_refl _, Nat.le_refl _⟩ rfl (Nat.le_of_ble_eq_true rfl) (fun r6 σ5 _ => ?_)
        refine hj_if_ne 55 dX9_endOfRun_37 (by decide) (fun _ => ?_) (fun _ => ?_)
        · refine hj_loc (lv' := [(0, .ref x0), (2, .int x2), (3, .int x3), (4, .int x4), (5, .int x5)]) [0, 1, 2, 3, 4] rfl ?_
          exact sX9_endOfRun_b55 ih _ _ _ _ _ _
        · refine hj_loc (lv' := [(0, .ref x0), (2, .int x2), (3, .int x3), (4, .int x4), (5, .int x5)]) [0, 1, 2, 3, 4] rfl ?_
          exact sX9_endOfRun_b40 ih _ _ _ _ _ _
def fX9_endOfRun (a0 : Nat) (a1 : Int32) (a2 : Int32) (σ : Sto) : Option (Int32 × Sto) := ((aI σ 1 a0 a1).bind fun t7 => (cb (fX9_isLetter t7 σ) fun r9 σ8 => ((aI σ8 1 a0 a1).bind fun t10 => (cb (fX9_isDigit t10 σ8) fun r12 σ11 => (lt ((a1 + ((1 : Int32)))) fun v13 => (fX9_endOfRun_b20 FU a0 a2 r9 r12 v13 σ11))))))
set_option maxHeartbeats 2000000 in
theorem kX9_endOfRun (G : GP) (a0 : Nat) (a1 : Int32) (a2 : Int32) (σ : Sto) : Me G mX9_endOfRun 2 0 0 jI [.ref a0, .int a1, .int a2] σ (fX9_endOfRun a0 a1 a2 σ) := by
  refine hs_me (lv := [(0, .ref a0), (1, .int a1), (2, .int a2)]) (plainFor_of_name (by decide +kernel)) (Nat.le_of_ble_eq_true rfl) rfl ?_
  unfold fX9_endOfRun
  refine hj_aload_n 0 dX9_endOfRun_0 rfl ?_
  refine hj_iload_n 1 dX9_endOfRun_1 rfl ?_
  refine hj_cald dX9_endOfRun_2 (fun t7 _ => ?_)
  refine hj_callS (M' := mX9_isLetter) (h' := 1) (As := [.int t7]) mfX9_isLetter msX9_isLetter mlX9_57 dX9_endOfRun_3 (kX9_isLetter G _ _) ⟨Nat.le_of_ble_eq_true rfl, Nat.le_of_ble_eq_true rfl⟩ ⟨Nat.le_refl _, Nat.le_refl _⟩ rfl (Nat.le_of_ble_eq_true rfl) (fun r9 σ8 _ => ?_)
  refine hj_istore_n (lv' := [(0, .ref a0), (1, .int a1), (2, .int a2), (3, .int r9)]) dX9_endOfRun_6 (by decide) [1, 2, 3, 0] rfl ?_
  refine hj_aload_n 0 dX9_endOfRun_7 rfl ?_
  refine hj_iload_n 1 dX9_endOfRun_8 rfl ?_
  refine hj_cald dX9_endOfRun_9 (fun t10 _ => ?_)
  refine hj_callS (M' := mX9_isDigit) (h' := 1) (As := [.int t10]) mfX9_isDigit msX9_isDigit mlX9_60 dX9_endOfRun_10 (kX9_isDigit G _ _) ⟨Nat.le_of_ble_eq_true rfl, Nat.le_of_ble_eq_true rfl⟩ ⟨Nat.le_refl _, Nat.le_refl _⟩ rfl (Nat.le_of_ble_eq_true rfl) (fun r12 σ11 _ => ?_)
  refine hj_istore (lv' := [(0, .ref a0), (1, .int a1), (2, .int a2), (3, .int r9), (4, .int r12)]) dX9_endOfRun_13 (by decide) [1, 2, 3, 4, 0] rfl ?_
  refine hj_iload_n 1 dX9_endOfRun_15 rfl ?_
  refine hj_iconst (1 : Int32) dX9_endOfRun_16 (by decide) ?_
  refine hj_iadd dX9_endOfRun_17 ?_
  refine hj_ltI (fun v13 _ => ?_)
  refine hj_istore (lv' := [(0, .ref a0), (1, .int a1), (2, .int a2), (3, .int r9), (4, .int r12), (5, .int v13)]) dX9_endOfRun_18 (by decide) [1, 2, 3, 4, 5, 0] rfl ?_
  refine hj_loc (lv' := [(0, .ref a0), (2, .int a2), (3, .int r9), (4, .int r12), (5, .int v13)]) [0, 2, 3, 4, 5] rfl ?_
  exact sX9_endOfRun_b20 _ _ _ _ _ _ _
def fX9_isBlank (a0 : Int32) (σ : Sto) : Option (Int32 × Sto) := (if a0 = (9 : Int32) then (some ((1 : Int32), σ)) else (if a0 = (10 : Int32) then (some ((1 : Int32), σ)) else (if a0 = (13 : Int32) then (some ((1 : Int32), σ)) else (if a0 = (32 : Int32) then (some ((1 : Int32), σ)) else (some ((0 : Int32), σ))))))
set_option maxHeartbeats 2000000 in
theorem kX9_isBlank (G : GP) (a0 : Int32) (σ : Sto) : Me G mX9_isBlank 1 0 0 jI [.int a0] σ (fX9_isBlank a0 σ) := by
  refine hs_me (lv := [(0, .int a0)]) (plainFor_of_name (by decide +kernel)) (Nat.le_of_ble_eq_true rfl) rfl ?_
  unfold fX9_isBlank
  refine hj_iload_n 0 dX9_isBlank_0 rfl ?_
  refine hj_bipush (9 : Int32) dX9_isBlank_1 (by decide) ?_
  refine hj_icmp_eq 24 dX9_isBlank_3 (by decide) (fun _ => ?_) (fun _ => ?_)
  · refine hj_iconst (1 : Int32) dX9_isBlank_24 (by decide) ?_
    refine hj_goto 29 dX9_isBlank_25 (by decide) ?_
    exact hj_zret dX9_isBlank_29 rfl (by decide) rfl (Nat.le_refl _)
  · refine hj_iload_n 0 dX9_isBlank_6 rfl ?_
    refine hj_bipush (10 : Int32) dX9_isBlank_7 (by decide) ?_
    refine hj_icmp_eq 24 dX9_isBlank_9 (by decide) (fun _ => ?_) (fun _ => ?_)
    · refine hj_iconst (1 : Int32) dX9_isBlank_24 (by decide) ?_
      refine hj_goto 29 dX9_isBlank_25 (by decide) ?_
      exact hj_zret dX9_isBlank_29 rfl (by decide) rfl (Nat.le_refl _)
    · refine hj_iload_n 0 dX9_isBlank_12 rfl ?_
      refine hj_bipush (13 : Int32) dX9_isBlank_13 (by decide) ?_
      refine hj_icmp_eq 24 dX9_isBlank_15 (by decide) (fun _ => ?_) (fun _ => ?_)
      · refine hj_iconst (1 : Int32) dX9_isBlank_24 (by decide) ?_
        refine hj_goto 29 dX9_isBlank_25 (by decide) ?_
        exact hj_zret dX9_isBlank_29 rfl (by decide) rfl (Nat.le_refl _)
      · refine hj_iload_n 0 dX9_isBlank_18 rfl ?_
        refine hj_bipush (32 : Int32) dX9_isBlank_19 (by decide) ?_
        refine hj_icmp_ne 28 dX9_isBlank_21 (by decide) (fun _ => ?_) (fun _ => ?_)
        · refine hj_iconst (0 : Int32) dX9_isBlank_28 (by decide) ?_
          exact hj_zret dX9_isBlank_29 rfl (by decide) rfl (Nat.le_refl _)
        · refine hj_iconst (1 : Int32) dX9_isBlank_24 (by decide) ?_
          refine hj_goto 29 dX9_isBlank_25 (by decide) ?_
          exact hj_zret dX9_isBlank_29 rfl (by decide) rfl (Nat.le_refl _)
def fX9_noteInt_b33 (x0 : Nat) (x4 : Int32) (σ : Sto) : Option (Unit × Sto) := ((gR σ 9 x0 1).bind fun t1 => ((gI σ 9 x0 4).bind fun t2 => ((sI σ 2 t1 t2 ((17 : Int32))).bind fun σ3 => ((gR σ3 9 x0 3).bind fun t4 => ((gI σ3 9 x0 4).bind fun t5 => ((sL σ3 3 t4 t5 ((x4.toInt64))).bind fun σ6 => (some ((), σ6))))))))
set_option maxHeartbeats 2000000 in
theorem sX9_noteInt_b33 {G : GP} {n0 : Nat} : ∀ (x0 : Nat) (x4 : Int32) (σ : Sto), Sim G mX9_noteInt 1 0 0 n0 jV 0 0 33 [(0, .ref x0), (4, .int x4)] [] σ (fX9_noteInt_b33 x0 x4 σ) := by
  intro x0 x4 σ
  unfold fX9_noteInt_b33
  refine hj_aload_n 0 dX9_noteInt_33 rfl ?_
  refine hj_getR flX9_15 dX9_noteInt_34 (fun t1 _ => ?_)
  refine hj_aload_n 0 dX9_noteInt_37 rfl ?_
  refine hj_getI flX9_25 dX9_noteInt_38 (fun t2 _ => ?_)
  refine hj_bipush (17 : Int32) dX9_noteInt_41 (by decide) ?_
  refine hj_iast dX9_noteInt_43 (fun σ3 _ => ?_)
  refine hj_aload_n 0 dX9_noteInt_44 rfl ?_
  refine hj_getR flX9_22 dX9_noteInt_45 (fun t4 _ => ?_)
  refine hj_aload_n 0 dX9_noteInt_48 rfl ?_
  refine hj_getI flX9_25 dX9_noteInt_49 (fun t5 _ => ?_)
  refine hj_iload 1 dX9_noteInt_52 rfl ?_
  refine hj_i2l dX9_noteInt_54 ?_
  refine hj_last dX9_noteInt_55 (fun σ6 _ => ?_)
  exact hj_vret dX9_noteInt_56 rfl rfl (Nat.le_refl _)
def fX9_noteInt_b6 : Nat → Nat → Nat → Int32 → Int32 → Int32 → Sto → Option (Unit × Sto)
  | 0, _, _, _, _, _, _ => none
  | n + 1, x0, x1, x3, x4, x5, σ => (if x3 ≤ x5 then (fX9_noteInt_b33 x0 x4 σ) else ((aI σ 1 x1 x5).bind fun t7 => (lt ((((((x4 * ((10 : Int32)))) + t7)) - ((48 : Int32)))) fun v8 => (fX9_noteInt_b6 n x0 x1 x3 v8 (x5 + (1 : Int32)) σ))))
set_option maxHeartbeats 2000000 in
theorem sX9_noteInt_b6 {G : GP} {n0 : Nat} : ∀ (n : Nat) (x0 : Nat) (x1 : Nat) (x3 : Int32) (x4 : Int32) (x5 : Int32) (σ : Sto), Sim G mX9_noteInt 1 0 0 n0 jV 0 0 6 [(0, .ref x0), (1, .ref x1), (3, .int x3), (4, .int x4), (5, .int x5)] [] σ (fX9_noteInt_b6 n x0 x1 x3 x4 x5 σ) := by
  intro n
  induction n with
  | zero => intros; rw [fX9_noteInt_b6]; exact hj_none
  | succ n ih =>
    intro x0 x1 x3 x4 x5 σ
    rw [fX9_noteInt_b6]
    refine hj_iload 4 dX9_noteInt_6 rfl ?_
    refine hj_iload_n 2 dX9_noteInt_8 rfl ?_
    refine hj_icmp_ge 33 dX9_noteInt_9 (by decide) (fun _ => ?_) (fun _ => ?_)
    · refine hj_loc (lv' := [(0, .ref x0), (4, .int x4)]) [0, 3] rfl ?_
      exact sX9_noteInt_b33 _ _ _
    · refine hj_iload 3 dX9_noteInt_12 rfl ?_
      refine hj_bipush (10 : Int32) dX9_noteInt_14 (by decide) ?_
      refine hj_imul dX9_noteInt_16 ?_
      refine hj_aload_n 1 dX9_noteInt_17 rfl ?_
      refine hj_iload 4 dX9_noteInt_18 rfl ?_
      refine hj_cald dX9_noteInt_20 (fun t7 _ => ?_)
      refine hj_iadd dX9_noteInt_21 ?_
      refine hj_bipush (48 : Int32) dX9_noteInt_22 (by decide) ?_
      refine hj_isub dX9_noteInt_24 ?_
      refine hj_ltI (fun v8 _ => ?_)
      refine hj_istore (lv' := [(0, .ref x0), (1, .ref x1), (3, .int x3), (4, .int v8), (5, .int x5)]) dX9_noteInt_25 (by decide) [1, 2, 3, 0, 4] rfl ?_
      refine hj_iinc (lv' := [(0, .ref x0), (1, .ref x1), (3, .int x3), (4, .int v8), (5, .int (x5 + (1 : Int32)))]) 4 (1 : Int32) dX9_noteInt_27 rfl (by decide) (by decide) [1, 2, 3, 4, 0] rfl ?_
      refine hj_goto 6 dX9_noteInt_30 (by decide) ?_
      refine hj_loc (lv' := [(0, .ref x0), (1, .ref x1), (3, .int x3), (4, .int v8), (5, .int (x5 + (1 : Int32)))]) [0, 1, 2, 3, 4] rfl ?_
      exact ih _ _ _ _ _ _
def fX9_noteInt (a0 : Nat) (a1 : Nat) (a2 : Int32) (a3 : Int32) (σ : Sto) : Option (Unit × Sto) := ck σ 9 a0 (fX9_noteInt_b6 FU a0 a1 a3 ((0 : Int32)) a2 σ)
set_option maxHeartbeats 2000000 in
theorem kX9_noteInt (G : GP) (a0 : Nat) (a1 : Nat) (a2 : Int32) (a3 : Int32) (σ : Sto) : Me G mX9_noteInt 1 0 0 jV [.ref a0, .ref a1, .int a2, .int a3] σ (fX9_noteInt a0 a1 a2 a3 σ) := by
  refine hs_me (lv := [(0, .ref a0), (1, .ref a1), (2, .int a2), (3, .int a3)]) (plainFor_of_name (by decide +kernel)) (Nat.le_of_ble_eq_true rfl) rfl ?_
  unfold fX9_noteInt
  refine hj_ck ?_
  refine hj_iconst (0 : Int32) dX9_noteInt_0 (by decide) ?_
  refine hj_istore (lv' := [(0, .ref a0), (1, .ref a1), (2, .int a2), (3, .int a3), (4, .int (0 : Int32))]) dX9_noteInt_1 (by decide) [1, 2, 3, 4, 0] rfl ?_
  refine hj_iload_n 2 dX9_noteInt_3 rfl ?_
  refine hj_istore (lv' := [(0, .ref a0), (1, .ref a1), (2, .int a2), (3, .int a3), (4, .int (0 : Int32)), (5, .int a2)]) dX9_noteInt_4 (by decide) [1, 2, 3, 4, 5, 0] rfl ?_
  refine hj_loc (lv' := [(0, .ref a0), (1, .ref a1), (3, .int a3), (4, .int (0 : Int32)), (5, .int a2)]) [0, 1, 3, 4, 5] rfl ?_
  exact sX9_noteInt_b6 _ _ _ _ _ _ _
theorem cX9_noteIntk {a0 : Nat} {a1 : Nat} {a2 : Int32} {a3 : Int32} {σ : Sto} {r : Unit × Sto} (h : fX9_noteInt a0 a1 a2 a3 σ = some r) : ∃ fs, hs_o σ 9 a0 = some fs := (ck_of h).1
def fX9_packLetter (a0 : Int64) (a1 : Int32) (σ : Sto) : Option (Int64 × Sto) := (some ((((((((a0 * ((32 : Int64)))) + ((a1.toInt64)))) - ((97 : Int64)))) + ((1 : Int64))), σ))
set_option maxHeartbeats 2000000 in
theorem kX9_packLetter (G : GP) (a0 : Int64) (a1 : Int32) (σ : Sto) : Me G mX9_packLetter 1 0 0 jL [.long a0, .int a1] σ (fX9_packLetter a0 a1 σ) := by
  refine hs_me (lv := [(0, .long a0), (2, .int a1)]) (plainFor_of_name (by decide +kernel)) (Nat.le_of_ble_eq_true rfl) rfl ?_
  unfold fX9_packLetter
  refine hj_lload_n 0 dX9_packLetter_0 rfl ?_
  refine hj_ldc2 (32 : Int64) kcX9_75 dX9_packLetter_1 ?_
  refine hj_lmul dX9_packLetter_4 ?_
  refine hj_iload_n 1 dX9_packLetter_5 rfl ?_
  refine hj_i2l dX9_packLetter_6 ?_
  refine hj_ladd dX9_packLetter_7 ?_
  refine hj_ldc2 (97 : Int64) kcX9_77 dX9_packLetter_8 ?_
  refine hj_lsub dX9_packLetter_11 ?_
  refine hj_lconst (1 : Int64) dX9_packLetter_12 (by decide) ?_
  refine hj_ladd dX9_packLetter_13 ?_
  exact hj_lret dX9_packLetter_14 rfl rfl (Nat.le_refl _)
def fX9_noteWord_b85 (K54 : Nat → Int64 → Int32 → Sto → Option (Unit × Sto)) (x0 : Nat) (x4 : Int64) (x6 : Int32) (σ : Sto) : Option (Unit × Sto) := (K54 x0 x4 (x6 + (1 : Int32)) σ)
set_option maxHeartbeats 2000000 in
theorem sX9_noteWord_b85 {G : GP} {n0 : Nat} {K54 : Nat → Int64 → Int32 → Sto → Option (Unit × Sto)} (hK54 : ∀ (x0 : Nat) (x4 : Int64) (x6 : Int32) (σ : Sto), Sim G mX9_noteWord 2 0 0 n0 jV 0 0 54 [(0, .ref x0), (4, .long x4), (6, .int x6)] [] σ (K54 x0 x4 x6 σ)) : ∀ (x0 : Nat) (x4 : Int64) (x6 : Int32) (σ : Sto), Sim G mX9_noteWord 2 0 0 n0 jV 0 0 85 [(0, .ref x0), (4, .long x4), (6, .int x6)] [] σ (fX9_noteWord_b85 K54 x0 x4 x6 σ) := by
  intro x0 x4 x6 σ
  unfold fX9_noteWord_b85
  refine hj_iinc (lv' := [(0, .ref x0), (4, .long x4), (6, .int (x6 + (1 : Int32)))]) 2 (1 : Int32) dX9_noteWord_85 rfl (by decide) (by decide) [1, 2, 0] rfl ?_
  refine hj_goto 54 dX9_noteWord_88 (by decide) ?_
  refine hj_loc (lv' := [(0, .ref x0), (4, .long x4), (6, .int (x6 + (1 : Int32)))]) [0, 1, 2] rfl ?_
  exact hK54 _ _ _ _
def fX9_noteWord_b54 : Nat → Nat → Int64 → Int32 → Sto → Option (Unit × Sto)
  | 0, _, _, _, _ => none
  | n + 1, x0, x4, x6, σ => (if (16 : Int32) ≤ x6 then (some ((), σ)) else ((gR σ 9 x0 0).bind fun t1 => ((aL σ 3 t1 x6).bind fun t2 => (if (lg_cmp t2 x4) = 0 then ((gR σ 9 x0 1).bind fun t3 => ((gI σ 9 x0 4).bind fun t4 => ((sI σ 2 t3 t4 x6).bind fun σ5 => (fX9_noteWord_b85 (fX9_noteWord_b54 n) x0 x4 x6 σ5)))) else (fX9_noteWord_b85 (fX9_noteWord_b54 n) x0 x4 x6 σ)))))
set_option maxHeartbeats 2000000 in
theorem sX9_noteWord_b54 {G : GP} {n0 : Nat} : ∀ (n : Nat) (x0 : Nat) (x4 : Int64) (x6 : Int32) (σ : Sto), Sim G mX9_noteWord 2 0 0 n0 jV 0 0 54 [(0, .ref x0), (4, .long x4), (6, .int x6)] [] σ (fX9_noteWord_b54 n x0 x4 x6 σ) := by
  intro n
  induction n with
  | zero => intros; rw [fX9_noteWord_b54]; exact hj_none
  | succ n ih =>
    intro x0 x4 x6 σ
    rw [fX9_noteWord_b54]
    refine hj_iload 2 dX9_noteWord_54 rfl ?_
    refine hj_bipush (16 : Int32) dX9_noteWord_56 (by decide) ?_
    refine hj_icmp_ge 91 dX9_noteWord_58 (by decide) (fun _ => ?_) (fun _ => ?_)
    · exact hj_vret dX9_noteWord_91 rfl rfl (Nat.le_refl _)
    · refine hj_aload_n 0 dX9_noteWord_61 rfl ?_
      refine hj_getR flX9_9 dX9_noteWord_62 (fun t1 _ => ?_)
      refine hj_iload 2 dX9_noteWord_65 rfl ?_
      refine hj_lald dX9_noteWord_67 (fun t2 _ => ?_)
      refine hj_lload 1 dX9_noteWord_68 rfl ?_
      refine hj_lcmp dX9_noteWord_70 ?_
      refine hj_if_ne 85 dX9_noteWord_71 (by decide) (fun _ => ?_) (fun _ => ?_)
      · refine hj_loc (lv' := [(0, .ref x0), (4, .long x4), (6, .int x6)]) [0, 1, 2] rfl ?_
        exact sX9_noteWord_b85 ih _ _ _ _
      · refine hj_aload_n 0 dX9_noteWord_74 rfl ?_
        refine hj_getR flX9_15 dX9_noteWord_75 (fun t3 _ => ?_)
        refine hj_aload_n 0 dX9_noteWord_78 rfl ?_
        refine hj_getI flX9_25 dX9_noteWord_79 (fun t4 _ => ?_)
        refine hj_iload 2 dX9_noteWord_82 rfl ?_
        refine hj_iast dX9_noteWord_84 (fun σ5 _ => ?_)
        refine hj_loc (lv' := [(0, .ref x0), (4, .long x4), (6, .int x6)]) [0, 1, 2] rfl ?_
        exact sX9_noteWord_b85 ih _ _ _ _
def fX9_noteWord_b29 (x0 : Nat) (x4 : Int64) (σ : Sto) : Option (Unit × Sto) := ((gR σ 9 x0 1).bind fun t6 => ((gI σ 9 x0 4).bind fun t7 => ((sI σ 2 t6 t7 ((16 : Int32))).bind fun σ8 => ((gR σ8 9 x0 3).bind fun t9 => ((gI σ8 9 x0 4).bind fun t10 => ((sL σ8 3 t9 t10 x4).bind fun σ11 => (fX9_noteWord_b54 FU x0 x4 ((0 : Int32)) σ11)))))))
set_option maxHeartbeats 2000000 in
theorem sX9_noteWord_b29 {G : GP} {n0 : Nat} : ∀ (x0 : Nat) (x4 : Int64) (σ : Sto), Sim G mX9_noteWord 2 0 0 n0 jV 0 0 29 [(0, .ref x0), (4, .long x4)] [] σ (fX9_noteWord_b29 x0 x4 σ) := by
  intro x0 x4 σ
  unfold fX9_noteWord_b29
  refine hj_aload_n 0 dX9_noteWord_29 rfl ?_
  refine hj_getR flX9_15 dX9_noteWord_30 (fun t6 _ => ?_)
  refine hj_aload_n 0 dX9_noteWord_33 rfl ?_
  refine hj_getI flX9_25 dX9_noteWord_34 (fun t7 _ => ?_)
  refine hj_bipush (16 : Int32) dX9_noteWord_37 (by decide) ?_
  refine hj_iast dX9_noteWord_39 (fun σ8 _ => ?_)
  refine hj_aload_n 0 dX9_noteWord_40 rfl ?_
  refine hj_getR flX9_22 dX9_noteWord_41 (fun t9 _ => ?_)
  refine hj_aload_n 0 dX9_noteWord_44 rfl ?_
  refine hj_getI flX9_25 dX9_noteWord_45 (fun t10 _ => ?_)
  refine hj_lload 1 dX9_noteWord_48 rfl ?_
  refine hj_last dX9_noteWord_50 (fun σ11 _ => ?_)
  refine hj_iconst (0 : Int32) dX9_noteWord_51 (by decide) ?_
  refine hj_istore (lv' := [(0, .ref x0), (4, .long x4), (6, .int (0 : Int32))]) dX9_noteWord_52 (by decide) [1, 2, 0] rfl ?_
  refine hj_loc (lv' := [(0, .ref x0), (4, .long x4), (6, .int (0 : Int32))]) [0, 1, 2] rfl ?_
  exact sX9_noteWord_b54 _ _ _ _ _
def fX9_noteWord_b6 : Nat → Nat → Nat → Int32 → Int64 → Int32 → Sto → Option (Unit × Sto)
  | 0, _, _, _, _, _, _ => none
  | n + 1, x0, x1, x3, x4, x6, σ => (if x3 ≤ x6 then (fX9_noteWord_b29 x0 x4 σ) else ((aI σ 1 x1 x6).bind fun t12 => (cb (fX9_packLetter x4 t12 σ) fun r14 σ13 => (fX9_noteWord_b6 n x0 x1 x3 r14 (x6 + (1 : Int32)) σ13))))
set_option maxHeartbeats 2000000 in
theorem sX9_noteWord_b6 {G : GP} {n0 : Nat} : ∀ (n : Nat) (x0 : Nat) (x1 : Nat) (x3 : Int32) (x4 : Int64) (x6 : Int32) (σ : Sto), Sim G mX9_noteWord 2 0 0 n0 jV 0 0 6 [(0, .ref x0), (1, .ref x1), (3, .int x3), (4, .long x4), (6, .int x6)] [] σ (fX9_noteWord_b6 n x0 x1 x3 x4 x6 σ) := by
  intro n
  induction n with
  | zero => intros; rw [fX9_noteWord_b6]; exact hj_none
  | succ n ih =>
    intro x0 x1 x3 x4 x6 σ
    rw [fX9_noteWord_b6]
    refine hj_iload 4 dX9_noteWord_6 rfl ?_
    refine hj_iload_n 2 dX9_noteWord_8 rfl ?_
    refine hj_icmp_ge 29 dX9_noteWord_9 (by decide) (fun _ => ?_) (fun _ => ?_)
    · refine hj_loc (lv' := [(0, .ref x0), (4, .long x4)]) [0, 3] rfl ?_
      exact sX9_noteWord_b29 _ _ _
    · refine hj_lload 3 dX9_noteWord_12 rfl ?_
      refine hj_aload_n 1 dX9_noteWord_14 rfl ?_
      refine hj_iload 4 dX9_noteWord_15 rfl ?_
      refine hj_cald dX9_noteWord_17 (fun t12 _ => ?_)
      refine hj_callS (M' := mX9_packLetter) (h' := 1) (As := [.long x4, .int t12]) mfX9_packLetter msX9_packLetter mlX9_41 dX9_noteWord_18 (kX9_packLetter G _ _ _) ⟨Nat.le_of_ble_eq_true rfl, Nat.le_of_ble_eq_true rfl⟩ ⟨Nat.le_refl _, Nat.le_refl _⟩ rfl (Nat.le_of_ble_eq_true rfl) (fun r14 σ13 _ => ?_)
      refine hj_lstore (lv' := [(0, .ref x0), (1, .ref x1), (3, .int x3), (4, .long r14), (6, .int x6)]) dX9_noteWord_21 (by decide) [1, 2, 3, 0, 4] rfl ?_
      refine hj_iinc (lv' := [(0, .ref x0), (1, .ref x1), (3, .int x3), (4, .long r14), (6, .int (x6 + (1 : Int32)))]) 4 (1 : Int32) dX9_noteWord_23 rfl (by decide) (by decide) [1, 2, 3, 4, 0] rfl ?_
      refine hj_goto 6 dX9_noteWord_26 (by decide) ?_
      refine hj_loc (lv' := [(0, .ref x0), (1, .ref x1), (3, .int x3), (4, .long r14), (6, .int (x6 + (1 : Int32)))]) [0, 1, 2, 3, 4] rfl ?_
      exact ih _ _ _ _ _ _
def fX9_noteWord (a0 : Nat) (a1 : Nat) (a2 : Int32) (a3 : Int32) (σ : Sto) : Option (Unit × Sto) := ck σ 9 a0 (fX9_noteWord_b6 FU a0 a1 a3 ((0 : Int64)) a2 σ)
set_option maxHeartbeats 2000000 in
theorem kX9_noteWord (G : GP) (a0 : Nat) (a1 : Nat) (a2 : Int32) (a3 : Int32) (σ : Sto) : Me G mX9_noteWord 2 0 0 jV [.ref a0, .ref a1, .int a2, .int a3] σ (fX9_noteWord a0 a1 a2 a3 σ) := by
  refine hs_me (lv := [(0, .ref a0), (1, .ref a1), (2, .int a2), (3, .int a3)]) (plainFor_of_name (by decide +kernel)) (Nat.le_of_ble_eq_true rfl) rfl ?_
  unfold fX9_noteWord
  refine hj_ck ?_
  refine hj_lconst (0 : Int64) dX9_noteWord_0 (by decide) ?_
  refine hj_lstore (lv' := [(0, .ref a0), (1, .ref a1), (2, .int a2), (3, .int a3), (4, .long (0 : Int64))]) dX9_noteWord_1 (by decide) [1, 2, 3, 4, 0] rfl ?_
  refine hj_iload_n 2 dX9_noteWord_3 rfl ?_
  refine hj_istore (lv' := [(0, .ref a0), (1, .ref a1), (2, .int a2), (3, .int a3), (4, .long (0 : Int64)), (6, .int a2)]) dX9_noteWord_4 (by decide) [1, 2, 3, 4, 5, 0] rfl ?_
  refine hj_loc (lv' := [(0, .ref a0), (1, .ref a1), (3, .int a3), (4, .long (0 : Int64)), (6, .int a2)]) [0, 1, 3, 4, 5] rfl ?_
  exact sX9_noteWord_b6 _ _ _ _ _ _ _
theorem cX9_noteWordk {a0 : Nat} {a1 : Nat} {a2 : Int32} {a3 : Int32} {σ : Sto} {r : Unit × Sto} (h : fX9_noteWord a0 a1 a2 a3 σ = some r) : ∃ fs, hs_o σ 9 a0 = some fs := (ck_of h).1
def fX9_note_b87 (x0 : Nat) (x4 : Int32) (σ : Sto) : Option (Unit × Sto) := (if (sx_ix x4) < 0 then ((gI σ 9 x0 4).bind fun t6 => ((pV σ 9 x0 4 (.int ((t6 + ((1 : Int32)))))).bind fun σ7 => (some ((), σ7)))) else ((gR σ 9 x0 1).bind fun t8 => ((gI σ 9 x0 4).bind fun t9 => ((sI σ 2 t8 t9 x4).bind fun σ10 => ((gI σ10 9 x0 4).bind fun t11 => ((pV σ10 9 x0 4 (.int ((t11 + ((1 : Int32)))))).bind fun σ12 => (some ((), σ12))))))))
set_option maxHeartbeats 2000000 in
theorem sX9_note_b87 {G : GP} {n0 : Nat} : ∀ (x0 : Nat) (x4 : Int32) (σ : Sto), Sim G mX9_note 8 0 0 n0 jV 0 0 87 [(0, .ref x0), (4, .int x4)] [] σ (fX9_note_b87 x0 x4 σ) := by
  intro x0 x4 σ
  unfold fX9_note_b87
  refine hj_sidx 1 dX9_note_87 dX9_note_89 dX9_note_91 rfl (Nat.le_of_ble_eq_true rfl) (Nat.le_of_ble_eq_true rfl) rfl rfl rfl (Nat.le_of_ble_eq_true rfl) ?_
  refine hj_if_lt 108 dX9_note_94 (by decide) (fun _ => ?_) (fun _ => ?_)
  · refine hj_aload_n 0 dX9_note_108 rfl ?_
    refine hj_dup dX9_note_109 rfl ?_
    refine hj_getI flX9_25 dX9_note_110 (fun t6 _ => ?_)
    refine hj_iconst (1 : Int32) dX9_note_113 (by decide) ?_
    refine hj_iadd dX9_note_114 ?_
    refine hj_put (fpX9_25 _) (fun _ => rfl) (fun _ => rfl) dX9_note_115 (fun σ7 _ => ?_)
    exact hj_vret dX9_note_118 rfl rfl (Nat.le_refl _)
  · refine hj_aload_n 0 dX9_note_97 rfl ?_
    refine hj_getR flX9_15 dX9_note_98 (fun t8 _ => ?_)
    refine hj_aload_n 0 dX9_note_101 rfl ?_
    refine hj_getI flX9_25 dX9_note_102 (fun t9 _ => ?_)
    refine hj_iload 1 dX9_note_105 rfl ?_
    refine hj_iast dX9_note_107 (fun σ10 _ => ?_)
    refine hj_aload_n 0 dX9_note_108 rfl ?_
    refine hj_dup dX9_note_109 rfl ?_
    refine hj_getI flX9_25 dX9_note_110 (fun t11 _ => ?_)
    refine hj_iconst (1 : Int32) dX9_note_113 (by decide) ?_
    refine hj_iadd dX9_note_114 ?_
    refine hj_put (fpX9_25 _) (fun _ => rfl) (fun _ => rfl) dX9_note_115 (fun σ12 _ => ?_)
    exact hj_vret dX9_note_118 rfl rfl (Nat.le_refl _)
def fX9_note_b62 (x0 : Nat) (x1 : Nat) (x2 : Int32) (x3 : Int32) (x4 : Int32) (σ : Sto) : Option (Unit × Sto) := (cb (fX9_isDigit x4 σ) fun r2 σ1 => (if r2 = 0 then (fX9_note_b87 x0 x4 σ1) else (if (4 : Int32) < (x3 - x2) then (fX9_note_b87 x0 x4 σ1) else (cb (fX9_noteInt x0 x1 x2 x3 σ1) fun _ σ3 => ((gI σ3 9 x0 4).bind fun t4 => ((pV σ3 9 x0 4 (.int ((t4 + ((1 : Int32)))))).bind fun σ5 => (some ((), σ5))))))))
set_option maxHeartbeats 2000000 in
theorem sX9_note_b62 {G : GP} {n0 : Nat} : ∀ (x0 : Nat) (x1 : Nat) (x2 : Int32) (x3 : Int32) (x4 : Int32) (σ : Sto), Sim G mX9_note 8 0 0 n0 jV 0 0 62 [(0, .ref x0), (1, .ref x1), (2, .int x2), (3, .int x3), (4, .int x4)] [] σ (fX9_note_b62 x0 x1 x2 x3 x4 σ) := by
  intro x0 x1 x2 x3 x4 σ
  unfold fX9_note_b62
  refine hj_iload 4 dX9_note_62 rfl ?_
  refine hj_callS (M' := mX9_isDigit) (h' := 1) (As := [.int x4]) mfX9_isDigit msX9_isDigit mlX9_60 dX9_note_64 (kX9_isDigit G _ _) ⟨Nat.le_of_ble_eq_true rfl, Nat.le_of_ble_eq_true rfl⟩ ⟨Nat.le_refl _, Nat.le_refl _⟩ rfl (Nat.le_of_ble_eq_true rfl) (fun r2 σ1 _ => ?_)
  refine hj_if_eq 87 dX9_note_67 (by decide) (fun _ => ?_) (fun _ => ?_)
  · refine hj_loc (lv' := [(0, .ref x0), (4, .int x4)]) [0, 4] rfl ?_
    exact sX9_note_b87 _ _ _
  · refine hj_iload_n 3 dX9_note_70 rfl ?_
    refine hj_iload_n 2 dX9_note_71 rfl ?_
    refine hj_isub dX9_note_72 ?_
    refine hj_iconst (4 : Int32) dX9_note_73 (by decide) ?_
    refine hj_icmp_gt 87 dX9_note_74 (by decide) (fun _ => ?_) (fun _ => ?_)
    · refine hj_loc (lv' := [(0, .ref x0), (4, .int x4)]) [0, 4] rfl ?_
      exact sX9_note_b87 _ _ _
    · refine hj_aload_n 0 dX9_note_77 rfl ?_
      refine hj_aload_n 1 dX9_note_78 rfl ?_
      refine hj_iload_n 2 dX9_note_79 rfl ?_
      refine hj_iload_n 3 dX9_note_80 rfl ?_
      refine hj_callV (ci := 9) (M' := mX9_noteInt) (h' := 1) (As := [.ref x1, .int x2, .int x3]) mfX9_noteInt mvX9_noteInt ⟨_, _, rfl⟩ mlX9_66 dX9_note_81 (kX9_noteInt G _ _ _ _ _) (fun _ hr => cX9_noteIntk hr) ⟨Nat.le_of_ble_eq_true rfl, Nat.le_of_ble_eq_true rfl⟩ ⟨Nat.le_refl _, Nat.le_refl _⟩ rfl (Nat.le_of_ble_eq_true rfl) (fun _ σ3 _ => ?_)
      refine hj_goto 108 dX9_note_84 (by decide) ?_
      refine hj_aload_n 0 dX9_note_108 rfl ?_
      refine hj_dup dX9_note_109 rfl ?_
      refine hj_getI flX9_25 dX9_note_110 (fun t4 _ => ?_)
      refine hj_iconst (1 : Int32) dX9_note_113 (by decide) ?_
      refine hj_iadd dX9_note_114 ?_
      refine hj_put (fpX9_25 _) (fun _ => rfl) (fun _ => rfl) dX9_note_115 (fun σ5 _ => ?_)
      exact hj_vret dX9_note_118 rfl rfl (Nat.le_refl _)
def fX9_note (a0 : Nat) (a1 : Nat) (a2 : Int32) (a3 : Int32) (σ : Sto) : Option (Unit × Sto) := ck σ 9 a0 ((aI σ 1 a1 a2).bind fun t13 => ((gR σ 9 a0 1).bind fun t14 => ((gI σ 9 a0 4).bind fun t15 => ((sI σ 2 t14 t15 ((19 : Int32))).bind fun σ16 => ((gR σ16 9 a0 2).bind fun t17 => ((gI σ16 9 a0 4).bind fun t18 => ((sI σ16 2 t17 t18 a2).bind fun σ19 => ((gR σ19 9 a0 3).bind fun t20 => ((gI σ19 9 a0 4).bind fun t21 => ((sL σ19 3 t20 t21 ((0 : Int64))).bind fun σ22 => (cb (fX9_isLetter t13 σ22) fun r24 σ23 => (if r24 = 0 then (fX9_note_b62 a0 a1 a2 a3 t13 σ23) else (if (8 : Int32) < (a3 - a2) then (fX9_note_b62 a0 a1 a2 a3 t13 σ23) else (cb (fX9_noteWord a0 a1 a2 a3 σ23) fun _ σ25 => ((gI σ25 9 a0 4).bind fun t26 => ((pV σ25 9 a0 4 (.int ((t26 + ((1 : Int32)))))).bind fun σ27 => (some ((), σ27))))))))))))))))))
set_option maxHeartbeats 2000000 in
theorem kX9_note (G : GP) (a0 : Nat) (a1 : Nat) (a2 : Int32) (a3 : Int32) (σ : Sto) : Me G mX9_note 8 0 0 jV [.ref a0, .ref a1, .int a2, .int a3] σ (fX9_note a0 a1 a2 a3 σ) := by
  refine hs_me (lv := [(0, .ref a0), (1, .ref a1), (2, .int a2), (3, .int a3)]) (plainFor_of_name (by decide +kernel)) (Nat.le_of_ble_eq_true rfl) rfl ?_
  unfold fX9_note
  refine hj_ck ?_
  refine hj_aload_n 1 dX9_note_0 rfl ?_
  refine hj_iload_n 2 dX9_note_1 rfl ?_
  refine hj_cald dX9_note_2 (fun t13 _ => ?_)
  refine hj_istore (lv' := [(0, .ref a0), (1, .ref a1), (2, .int a2), (3, .int a3), (4, .int t13)]) dX9_note_3 (by decide) [1, 2, 3, 4, 0] rfl ?_
  refine hj_aload_n 0 dX9_note_5 rfl ?_
  refine hj_getR flX9_15 dX9_note_6 (fun t14 _ => ?_)
  refine hj_aload_n 0 dX9_note_9 rfl ?_
  refine hj_getI flX9_25 dX9_note_10 (fun t15 _ => ?_)
  refine hj_bipush (19 : Int32) dX9_note_13 (by decide) ?_
  refine hj_iast dX9_note_15 (fun σ16 _ => ?_)
  refine hj_aload_n 0 dX9_note_16 rfl ?_
  refine hj_getR flX9_19 dX9_note_17 (fun t17 _ => ?_)
  refine hj_aload_n 0 dX9_note_20 rfl ?_
  refine hj_getI flX9_25 dX9_note_21 (fun t18 _ => ?_)
  refine hj_iload_n 2 dX9_note_24 rfl ?_
  refine hj_iast dX9_note_25 (fun σ19 _ => ?_)
  refine hj_aload_n 0 dX9_note_26 rfl ?_
  refine hj_getR flX9_22 dX9_note_27 (fun t20 _ => ?_)
  refine hj_aload_n 0 dX9_note_30 rfl ?_
  refine hj_getI flX9_25 dX9_note_31 (fun t21 _ => ?_)
  refine hj_lconst (0 : Int64) dX9_note_34 (by decide) ?_
  refine hj_last dX9_note_35 (fun σ22 _ => ?_)
  refine hj_iload 4 dX9_note_36 rfl ?_
  refine hj_callS (M' := mX9_isLetter) (h' := 1) (As := [.int t13]) mfX9_isLetter msX9_isLetter mlX9_57 dX9_note_38 (kX9_isLetter G _ _) ⟨Nat.le_of_ble_eq_true rfl, Nat.le_of_ble_eq_true rfl⟩ ⟨Nat.le_refl _, Nat.le_refl _⟩ rfl (Nat.le_of_ble_eq_true rfl) (fun r24 σ23 _ => ?_)
  refine hj_if_eq 62 dX9_note_41 (by decide) (fun _ => ?_) (fun _ => ?_)
  · refine hj_loc (lv' := [(0, .ref a0), (1, .ref a1), (2, .int a2), (3, .int a3), (4, .int t13)]) [0, 1, 2, 3, 4] rfl ?_
    exact sX9_note_b62 _ _ _ _ _ _
  · refine hj_iload_n 3 dX9_note_44 rfl ?_
    refine hj_iload_n 2 dX9_note_45 rfl ?_
    refine hj_isub dX9_note_46 ?_
    refine hj_bipush (8 : Int32) dX9_note_47 (by decide) ?_
    refine hj_icmp_gt 62 dX9_note_49 (by decide) (fun _ => ?_) (fun _ => ?_)
    · refine hj_loc (lv' := [(0, .ref a0), (1, .ref a1), (2, .int a2), (3, .int a3), (4, .int t13)]) [0, 1, 2, 3, 4] rfl ?_
      exact sX9_note_b62 _ _ _ _ _ _
    · refine hj_aload_n 0 dX9_note_52 rfl ?_
      refine hj_aload_n 1 dX9_note_53 rfl ?_
      refine hj_iload_n 2 dX9_note_54 rfl ?_
      refine hj_iload_n 3 dX9_note_55 rfl ?_
      refine hj_callV (ci := 9) (M' := mX9_noteWord) (h' := 2) (As := [.ref a1, .int a2, .int a3]) mfX9_noteWord mvX9_noteWord ⟨_, _, rfl⟩ mlX9_63 dX9_note_56 (kX9_noteWord G _ _ _ _ _) (fun _ hr => cX9_noteWordk hr) ⟨Nat.le_of_ble_eq_true rfl, Nat.le_of_ble_eq_true rfl⟩ ⟨Nat.le_refl _, Nat.le_refl _⟩ rfl (Nat.le_of_ble_eq_true rfl) (fun _ σ25 _ => ?_)
      refine hj_goto 108 dX9_note_59 (by decide) ?_
      refine hj_aload_n 0 dX9_note_108 rfl ?_
      refine hj_dup dX9_note_109 rfl ?_
      refine hj_getI flX9_25 dX9_note_110 (fun t26 _ => ?_)
      refine hj_iconst (1 : Int32) dX9_note_113 (by decide) ?_
      refine hj_iadd dX9_note_114 ?_
      refine hj_put (fpX9_25 _) (fun _ => rfl) (fun _ => rfl) dX9_note_115 (fun σ27 _ => ?_)
      exact hj_vret dX9_note_118 rfl rfl (Nat.le_refl _)
theorem cX9_notek {a0 : Nat} {a1 : Nat} {a2 : Int32} {a3 : Int32} {σ : Sto} {r : Unit × Sto} (h : fX9_note a0 a1 a2 a3 σ = some r) : ∃ fs, hs_o σ 9 a0 = some fs := (ck_of h).1
def fX9_scan_b67 (x0 : Nat) (x2 : Int32) (σ : Sto) : Option (Unit × Sto) := ((gR σ 9 x0 1).bind fun t8 => ((gI σ 9 x0 4).bind fun t9 => ((sI σ 2 t8 t9 ((18 : Int32))).bind fun σ10 => ((gR σ10 9 x0 2).bind fun t11 => ((gI σ10 9 x0 4).bind fun t12 => ((sI σ10 2 t11 t12 x2).bind fun σ13 => (some ((), σ13))))))))
set_option maxHeartbeats 2000000 in
theorem sX9_scan_b67 {G : GP} {n0 : Nat} : ∀ (x0 : Nat) (x2 : Int32) (σ : Sto), Sim G mX9_scan 9 0 0 n0 jV 0 0 67 [(0, .ref x0), (2, .int x2)] [] σ (fX9_scan_b67 x0 x2 σ) := by
  intro x0 x2 σ
  unfold fX9_scan_b67
  refine hj_aload_n 0 dX9_scan_67 rfl ?_
  refine hj_getR flX9_15 dX9_scan_68 (fun t8 _ => ?_)
  refine hj_aload_n 0 dX9_scan_71 rfl ?_
  refine hj_getI flX9_25 dX9_scan_72 (fun t9 _ => ?_)
  refine hj_bipush (18 : Int32) dX9_scan_75 (by decide) ?_
  refine hj_iast dX9_scan_77 (fun σ10 _ => ?_)
  refine hj_aload_n 0 dX9_scan_78 rfl ?_
  refine hj_getR flX9_19 dX9_scan_79 (fun t11 _ => ?_)
  refine hj_aload_n 0 dX9_scan_82 rfl ?_
  refine hj_getI flX9_25 dX9_scan_83 (fun t12 _ => ?_)
  refine hj_iload_n 1 dX9_scan_86 rfl ?_
  refine hj_iast dX9_scan_87 (fun σ13 _ => ?_)
  exact hj_vret dX9_scan_88 rfl rfl (Nat.le_refl _)
def fX9_scan_b58 (K10 : Nat → Nat → Int32 → Int32 → Int32 → Sto → Option (Unit × Sto)) (x0 : Nat) (x1 : Nat) (x2 : Int32) (x4 : Int32) (x5 : Int32) (σ : Sto) : Option (Unit × Sto) := (K10 x0 x1 x2 x5 (x4 + (1 : Int32)) σ)
set_option maxHeartbeats 2000000 in
theorem sX9_scan_b58 {G : GP} {n0 : Nat} {K10 : Nat → Nat → Int32 → Int32 → Int32 → Sto → Option (Unit × Sto)} (hK10 : ∀ (x0 : Nat) (x1 : Nat) (x2 : Int32) (x3 : Int32) (x4 : Int32) (σ : Sto), Sim G mX9_scan 9 0 0 n0 jV 0 0 10 [(0, .ref x0), (1, .ref x1), (2, .int x2), (3, .int x3), (4, .int x4)] [] σ (K10 x0 x1 x2 x3 x4 σ)) : ∀ (x0 : Nat) (x1 : Nat) (x2 : Int32) (x4 : Int32) (x5 : Int32) (σ : Sto), Sim G mX9_scan 9 0 0 n0 jV 0 0 58 [(0, .ref x0), (1, .ref x1), (2, .int x2), (4, .int x4), (5, .int x5)] [] σ (fX9_scan_b58 K10 x0 x1 x2 x4 x5 σ) := by
  intro x0 x1 x2 x4 x5 σ
  unfold fX9_scan_b58
  refine hj_iload 4 dX9_scan_58 rfl ?_
  refine hj_istore_n (lv' := [(0, .ref x0), (1, .ref x1), (2, .int x2), (3, .int x5), (4, .int x4), (5, .int x5)]) dX9_scan_60 (by decide) [1, 2, 3, 0, 4, 5] rfl ?_
  refine hj_iinc (lv' := [(0, .ref x0), (1, .ref x1), (2, .int x2), (3, .int x5), (4, .int (x4 + (1 : Int32))), (5, .int x5)]) 4 (1 : Int32) dX9_scan_61 rfl (by decide) (by decide) [1, 2, 3, 4, 0, 5] rfl ?_
  refine hj_goto 10 dX9_scan_64 (by decide) ?_
  refine hj_loc (lv' := [(0, .ref x0), (1, .ref x1), (2, .int x2), (3, .int x5), (4, .int (x4 + (1 : Int32)))]) [0, 1, 2, 3, 4] rfl ?_
  exact hK10 _ _ _ _ _ _
def fX9_scan_b10 : Nat → Nat → Nat → Int32 → Int32 → Int32 → Sto → Option (Unit × Sto)
  | 0, _, _, _, _, _, _ => none
  | n + 1, x0, x1, x2, x3, x4, σ => (if (2000 : Int32) ≤ x4 then (fX9_scan_b67 x0 x2 σ) else (if x2 ≤ x3 then (fX9_scan_b67 x0 x2 σ) else ((gI σ 9 x0 4).bind fun t1 => (if (400 : Int32) < t1 then (fX9_scan_b67 x0 x2 σ) else (cb (fX9_endOfRun x1 x3 x2 σ) fun r3 σ2 => ((aI σ2 1 x1 x3).bind fun t4 => (cb (fX9_isBlank t4 σ2) fun r6 σ5 => (if r6 = 0 then (cb (fX9_note x0 x1 x3 r3 σ5) fun _ σ7 => (fX9_scan_b58 (fX9_scan_b10 n) x0 x1 x2 x4 r3 σ7)) else (fX9_scan_b58 (fX9_scan_b10 n) x0 x1 x2 x4 r3 σ5)))))))))
set_option maxHeartbeats 2000000 in
theorem sX9_scan_b10 {G : GP} {n0 : Nat} : ∀ (n : Nat) (x0 : Nat) (x1 : Nat) (x2 : Int32) (x3 : Int32) (x4 : Int32) (σ : Sto), Sim G mX9_scan 9 0 0 n0 jV 0 0 10 [(0, .ref x0), (1, .ref x1), (2, .int x2), (3, .int x3), (4, .int x4)] [] σ (fX9_scan_b10 n x0 x1 x2 x3 x4 σ) := by
  intro n
  induction n with
  | zero => intros; rw [fX9_scan_b10]; exact hj_none
  | succ n ih =>
    intro x0 x1 x2 x3 x4 σ
    rw [fX9_scan_b10]
    refine hj_iload 4 dX9_scan_10 rfl ?_
    refine hj_sipush (2000 : Int32) dX9_scan_12 (by decide) ?_
    refine hj_icmp_ge 67 dX9_scan_15 (by decide) (fun _ => ?_) (fun _ => ?_)
    · refine hj_loc (lv' := [(0, .ref x0), (2, .int x2)]) [0, 2] rfl ?_
      exact sX9_scan_b67 _ _ _
    · refine hj_iload_n 3 dX9_scan_18 rfl ?_
      refine hj_iload_n 2 dX9_scan_19 rfl ?_
      refine hj_icmp_ge 67 dX9_scan_20 (by decide) (fun _ => ?_) (fun _ => ?_)
      · refine hj_loc (lv' := [(0, .ref x0), (2, .int x2)]) [0, 2] rfl ?_
        exact sX9_scan_b67 _ _ _
      · refine hj_aload_n 0 dX9_scan_23 rfl ?_
        refine hj_getI flX9_25 dX9_scan_24 (fun t1 _ => ?_)
        refine hj_sipush (400 : Int32) dX9_scan_27 (by decide) ?_
        refine hj_icmp_gt 67 dX9_scan_30 (by decide) (fun _ => ?_) (fun _ => ?_)
        · refine hj_loc (lv' := [(0, .ref x0), (2, .int x2)]) [0, 2] rfl ?_
          exact sX9_scan_b67 _ _ _
        · refine hj_aload_n 1 dX9_scan_33 rfl ?_
          refine hj_iload_n 3 dX9_scan_34 rfl ?_
          refine hj_iload_n 2 dX9_scan_35 rfl ?_
          refine hj_callS (M' := mX9_endOfRun) (h' := 2) (As := [.ref x1, .int x3, .int x2]) mfX9_endOfRun msX9_endOfRun mlX9_45 dX9_scan_36 (kX9_endOfRun G _ _ _ _) ⟨Nat.le_of_ble_eq_true rfl, Nat.le_of_ble_eq_true rfl⟩ ⟨Nat.le_refl _, Nat.le_refl _⟩ rfl (Nat.le_of_ble_eq_true rfl) (fun r3 σ2 _ => ?_)
          refine hj_istore (lv' := [(0, .ref x0), (1, .ref x1), (2, .int x2), (3, .int x3), (4, .int x4), (5, .int r3)]) dX9_scan_39 (by decide) [1, 2, 3, 4, 5, 0] rfl ?_
          refine hj_aload_n 1 dX9_scan_41 rfl ?_
          refine hj_iload_n 3 dX9_scan_42 rfl ?_
          refine hj_cald dX9_scan_43 (fun t4 _ => ?_)
          refine hj_callS (M' := mX9_isBlank) (h' := 1) (As := [.int t4]) mfX9_isBlank msX9_isBlank mlX9_49 dX9_scan_44 (kX9_isBlank G _ _) ⟨Nat.le_of_ble_eq_true rfl, Nat.le_of_ble_eq_true rfl⟩ ⟨Nat.le_refl _, Nat.le_refl _⟩ rfl (Nat.le_of_ble_eq_true rfl) (fun r6 σ5 _ => ?_)
          refine hj_if_ne 58 dX9_scan_47 (by decide) (fun _ => ?_) (fun _ => ?_)
          · refine hj_loc (lv' := [(0, .ref x0), (1, .ref x1), (2, .int x2), (4, .int x4), (5, .int r3)]) [0, 1, 2, 4, 5] rfl ?_
            exact sX9_scan_b58 ih _ _ _ _ _ _
          · refine hj_aload_n 0 dX9_scan_50 rfl ?_
            refine hj_aload_n 1 dX9_scan_51 rfl ?_
            refine hj_iload_n 3 dX9_scan_52 rfl ?_
            refine hj_iload 5 dX9_scan_53 rfl ?_
            refine hj_callV (ci := 9) (M' := mX9_note) (h' := 8) (As := [.ref x1, .int x3, .int r3]) mfX9_note mvX9_note ⟨_, _, rfl⟩ mlX9_53 dX9_scan_55 (kX9_note G _ _ _ _ _) (fun _ hr => cX9_notek hr) ⟨Nat.le_of_ble_eq_true rfl, Nat.le_of_ble_eq_true rfl⟩ ⟨Nat.le_refl _, Nat.le_refl _⟩ rfl (Nat.le_of_ble_eq_true rfl) (fun _ σ7 _ => ?_)
            refine hj_loc (lv' := [(0, .ref x0), (1, .ref x1), (2, .int x2), (4, .int x4), (5, .int r3)]) [0, 1, 2, 4, 5] rfl ?_
            exact sX9_scan_b58 ih _ _ _ _ _ _
def fX9_scan (a0 : Nat) (a1 : Nat) (a2 : Int32) (σ : Sto) : Option (Unit × Sto) := ck σ 9 a0 ((pV σ 9 a0 4 (.int ((0 : Int32)))).bind fun σ14 => (fX9_scan_b10 FU a0 a1 a2 ((0 : Int32)) ((0 : Int32)) σ14))
set_option maxHeartbeats 2000000 in
theorem kX9_scan (G : GP) (a0 : Nat) (a1 : Nat) (a2 : Int32) (σ : Sto) : Me G mX9_scan 9 0 0 jV [.ref a0, .ref a1, .int a2] σ (fX9_scan a0 a1 a2 σ) := by
  refine hs_me (lv := [(0, .ref a0), (1, .ref a1), (2, .int a2)]) (plainFor_of_name (by decide +kernel)) (Nat.le_of_ble_eq_true rfl) rfl ?_
  unfold fX9_scan
  refine hj_ck ?_
  refine hj_aload_n 0 dX9_scan_0 rfl ?_
  refine hj_iconst (0 : Int32) dX9_scan_1 (by decide) ?_
  refine hj_put (fpX9_25 _) (fun _ => rfl) (fun _ => rfl) dX9_scan_2 (fun σ14 _ => ?_)
  refine hj_iconst (0 : Int32) dX9_scan_5 (by decide) ?_
  refine hj_istore_n (lv' := [(0, .ref a0), (1, .ref a1), (2, .int a2), (3, .int (0 : Int32))]) dX9_scan_6 (by decide) [1, 2, 3, 0] rfl ?_
  refine hj_iconst (0 : Int32) dX9_scan_7 (by decide) ?_
  refine hj_istore (lv' := [(0, .ref a0), (1, .ref a1), (2, .int a2), (3, .int (0 : Int32)), (4, .int (0 : Int32))]) dX9_scan_8 (by decide) [1, 2, 3, 4, 0] rfl ?_
  refine hj_loc (lv' := [(0, .ref a0), (1, .ref a1), (2, .int a2), (3, .int (0 : Int32)), (4, .int (0 : Int32))]) [0, 1, 2, 3, 4] rfl ?_
  exact sX9_scan_b10 _ _ _ _ _ _ _
theorem cX9_scank {a0 : Nat} {a1 : Nat} {a2 : Int32} {σ : Sto} {r : Unit × Sto} (h : fX9_scan a0 a1 a2 σ = some r) : ∃ fs, hs_o σ 9 a0 = some fs := (ck_of h).1
