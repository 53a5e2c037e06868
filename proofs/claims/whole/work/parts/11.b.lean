def fX12_tellLaw_b129 (x0 : Nat) (x1 : Int32) (x2 : Int32) (σ : Sto) : Option (Unit × Sto) := ((gR σ 12 x0 34).bind fun t18 => ((gI σ 12 x0 33).bind fun t19 => ((sI σ 4 t18 t19 ((0 : Int32))).bind fun σ20 => (cb (fX12_term x0 σ20) fun _ σ21 => (cb (fX12_must x0 ((4 : Int32)) σ21) fun _ σ22 => ((gI σ22 12 x0 13).bind fun t23 => (if 0 < t23 then (some ((), σ22)) else (if 0 ≤ x1 then ((gR σ22 12 x0 31).bind fun t24 => ((gI σ22 12 x0 19).bind fun t25 => ((sI σ22 2 t24 ((((((6 : Int32)) * t25)) + x1)) x2).bind fun σ26 => ((gR σ26 12 x0 32).bind fun t27 => ((gI σ26 12 x0 19).bind fun t28 => ((gI σ26 12 x0 33).bind fun t29 => ((sI σ26 2 t27 ((((((6 : Int32)) * t28)) + x1)) t29).bind fun σ30 => (some ((), σ30))))))))) else (some ((), σ22))))))))))
set_option maxHeartbeats 2000000 in
theorem sX12_tellLaw_b129 {G : GP} {n0 : Nat} : ∀ (x0 : Nat) (x1 : Int32) (x2 : Int32) (σ : Sto), Sim G mX12_tellLaw 6 0 0 n0 jV 0 0 129 [(0, .ref x0), (1, .int x1), (2, .int x2)] [] σ (fX12_tellLaw_b129 x0 x1 x2 σ) := by
  intro x0 x1 x2 σ
  unfold fX12_tellLaw_b129
  refine hj_aload_n 0 dX12_tellLaw_129 rfl ?_
  refine hj_getR flX12_76 dX12_tellLaw_130 (fun t18 _ => ?_)
  refine hj_aload_n 0 dX12_tellLaw_133 rfl ?_
  refine hj_getI flX12_230 dX12_tellLaw_134 (fun t19 _ => ?_)
  refine hj_iconst (0 : Int32) dX12_tellLaw_137 (by decide) ?_
  refine hj_zast dX12_tellLaw_138 (fun σ20 _ => ?_)
  refine hj_aload_n 0 dX12_tellLaw_139 rfl ?_
  refine hj_callV (ci := 12) (M' := mX12_term) (h' := 5) (As := []) mfX12_term mvX12_term ⟨_, _, rfl⟩ mlX12_278 dX12_tellLaw_140 (kX12_term G _ _) (fun _ hr => cX12_termk hr) ⟨Nat.le_of_ble_eq_true rfl, Nat.le_of_ble_eq_true rfl⟩ ⟨Nat.le_refl _, Nat.le_refl _⟩ rfl (Nat.le_of_ble_eq_true rfl) (fun _ σ21 _ => ?_)
  refine hj_aload_n 0 dX12_tellLaw_143 rfl ?_
  refine hj_iconst (4 : Int32) dX12_tellLaw_144 (by decide) ?_
  refine hj_callV (ci := 12) (M' := mX12_must) (h' := 3) (As := [.int ((4 : Int32))]) mfX12_must mvX12_must ⟨_, _, rfl⟩ mlX12_263 dX12_tellLaw_145 (kX12_must G _ _ _) (fun _ hr => cX12_mustk hr) ⟨Nat.le_of_ble_eq_true rfl, Nat.le_of_ble_eq_true rfl⟩ ⟨Nat.le_refl _, Nat.le_refl _⟩ rfl (Nat.le_of_ble_eq_true rfl) (fun _ σ22 _ => ?_)
  refine hj_aload_n 0 dX12_tellLaw_148 rfl ?_
  refine hj_getI flX12_191 dX12_tellLaw_149 (fun t23 _ => ?_)
  refine hj_if_gt 159 dX12_tellLaw_152 (by decide) (fun _ => ?_) (fun _ => ?_)
  · exact hj_vret dX12_tellLaw_159 rfl rfl (Nat.le_refl _)
  · refine hj_iload_n 1 dX12_tellLaw_155 rfl ?_
    refine hj_if_ge 160 dX12_tellLaw_156 (by decide) (fun _ => ?_) (fun _ => ?_)
    · refine hj_aload_n 0 dX12_tellLaw_160 rfl ?_
      refine hj_getR flX12_70 dX12_tellLaw_161 (fun t24 _ => ?_)
      refine hj_bipush (6 : Int32) dX12_tellLaw_164 (by decide) ?_
      refine hj_aload_n 0 dX12_tellLaw_166 rfl ?_
      refine hj_getI flX12_224 dX12_tellLaw_167 (fun t25 _ => ?_)
      refine hj_imul dX12_tellLaw_170 ?_
      refine hj_iload_n 1 dX12_tellLaw_171 rfl ?_
      refine hj_iadd dX12_tellLaw_172 ?_
      refine hj_iload_n 2 dX12_tellLaw_173 rfl ?_
      refine hj_iast dX12_tellLaw_174 (fun σ26 _ => ?_)
      refine hj_aload_n 0 dX12_tellLaw_175 rfl ?_
      refine hj_getR flX12_73 dX12_tellLaw_176 (fun t27 _ => ?_)
      refine hj_bipush (6 : Int32) dX12_tellLaw_179 (by decide) ?_
      refine hj_aload_n 0 dX12_tellLaw_181 rfl ?_
      refine hj_getI flX12_224 dX12_tellLaw_182 (fun t28 _ => ?_)
      refine hj_imul dX12_tellLaw_185 ?_
      refine hj_iload_n 1 dX12_tellLaw_186 rfl ?_
      refine hj_iadd dX12_tellLaw_187 ?_
      refine hj_aload_n 0 dX12_tellLaw_188 rfl ?_
      refine hj_getI flX12_230 dX12_tellLaw_189 (fun t29 _ => ?_)
      refine hj_iast dX12_tellLaw_192 (fun σ30 _ => ?_)
      exact hj_vret dX12_tellLaw_193 rfl rfl (Nat.le_refl _)
    · exact hj_vret dX12_tellLaw_159 rfl rfl (Nat.le_refl _)
def fX12_tellLaw_b110 (K12 : Nat → Int32 → Int32 → Int32 → Sto → Option (Unit × Sto)) (x0 : Nat) (x1 : Int32) (x2 : Int32) (x3 : Int32) (σ : Sto) : Option (Unit × Sto) := (cb (fX12_must x0 ((29 : Int32)) σ) fun _ σ35 => (cb (fX12_term x0 σ35) fun _ σ36 => (cb (fX12_must x0 ((30 : Int32)) σ36) fun _ σ37 => (K12 x0 x1 x2 x3 σ37))))
set_option maxHeartbeats 2000000 in
theorem sX12_tellLaw_b110 {G : GP} {n0 : Nat} {K12 : Nat → Int32 → Int32 → Int32 → Sto → Option (Unit × Sto)} (hK12 : ∀ (x0 : Nat) (x1 : Int32) (x2 : Int32) (x3 : Int32) (σ : Sto), Sim G mX12_tellLaw 6 0 0 n0 jV 0 0 12 [(0, .ref x0), (1, .int x1), (2, .int x2), (3, .int x3)] [] σ (K12 x0 x1 x2 x3 σ)) : ∀ (x0 : Nat) (x1 : Int32) (x2 : Int32) (x3 : Int32) (σ : Sto), Sim G mX12_tellLaw 6 0 0 n0 jV 0 0 110 [(0, .ref x0), (1, .int x1), (2, .int x2), (3, .int x3)] [] σ (fX12_tellLaw_b110 K12 x0 x1 x2 x3 σ) := by
  intro x0 x1 x2 x3 σ
  unfold fX12_tellLaw_b110
  refine hj_aload_n 0 dX12_tellLaw_110 rfl ?_
  refine hj_bipush (29 : Int32) dX12_tellLaw_111 (by decide) ?_
  refine hj_callV (ci := 12) (M' := mX12_must) (h' := 3) (As := [.int ((29 : Int32))]) mfX12_must mvX12_must ⟨_, _, rfl⟩ mlX12_263 dX12_tellLaw_113 (kX12_must G _ _ _) (fun _ hr => cX12_mustk hr) ⟨Nat.le_of_ble_eq_true rfl, Nat.le_of_ble_eq_true rfl⟩ ⟨Nat.le_refl _, Nat.le_refl _⟩ rfl (Nat.le_of_ble_eq_true rfl) (fun _ σ35 _ => ?_)
  refine hj_aload_n 0 dX12_tellLaw_116 rfl ?_
  refine hj_callV (ci := 12) (M' := mX12_term) (h' := 5) (As := []) mfX12_term mvX12_term ⟨_, _, rfl⟩ mlX12_278 dX12_tellLaw_117 (kX12_term G _ _) (fun _ hr => cX12_termk hr) ⟨Nat.le_of_ble_eq_true rfl, Nat.le_of_ble_eq_true rfl⟩ ⟨Nat.le_refl _, Nat.le_refl _⟩ rfl (Nat.le_of_ble_eq_true rfl) (fun _ σ36 _ => ?_)
  refine hj_aload_n 0 dX12_tellLaw_120 rfl ?_
  refine hj_bipush (30 : Int32) dX12_tellLaw_121 (by decide) ?_
  refine hj_callV (ci := 12) (M' := mX12_must) (h' := 3) (As := [.int ((30 : Int32))]) mfX12_must mvX12_must ⟨_, _, rfl⟩ mlX12_263 dX12_tellLaw_123 (kX12_must G _ _ _) (fun _ hr => cX12_mustk hr) ⟨Nat.le_of_ble_eq_true rfl, Nat.le_of_ble_eq_true rfl⟩ ⟨Nat.le_refl _, Nat.le_refl _⟩ rfl (Nat.le_of_ble_eq_true rfl) (fun _ σ37 _ => ?_)
  refine hj_goto 12 dX12_tellLaw_126 (by decide) ?_
  refine hj_loc (lv' := [(0, .ref x0), (1, .int x1), (2, .int x2), (3, .int x3)]) [0, 1, 2, 3] rfl ?_
  exact hK12 _ _ _ _ _
def fX12_tellLaw_b38 (K12 : Nat → Int32 → Int32 → Int32 → Sto → Option (Unit × Sto)) (x0 : Nat) (x1 : Int32) (x2 : Int32) (x3 : Int32) (σ : Sto) : Option (Unit × Sto) := ((gI σ 12 x0 13).bind fun t1 => (if t1 ≤ 0 then (cb (fX12_goesOn x0 σ) fun _ σ2 => ((gR σ2 12 x0 34).bind fun t3 => ((gI σ2 12 x0 33).bind fun t4 => ((sI σ2 4 t3 t4 ((1 : Int32))).bind fun σ5 => ((gR σ5 12 x0 35).bind fun t6 => ((gI σ5 12 x0 33).bind fun t7 => ((gI σ5 12 x0 39).bind fun t8 => ((sI σ5 2 t6 t7 t8).bind fun σ9 => (cb (fX12_expression x0 σ9) fun _ σ10 => (cb (fX12_must x0 ((13 : Int32)) σ10) fun _ σ11 => ((gR σ11 12 x0 36).bind fun t12 => ((gI σ11 12 x0 33).bind fun t13 => ((gI σ11 12 x0 39).bind fun t14 => ((sI σ11 2 t12 t13 t14).bind fun σ15 => ((gI σ15 12 x0 13).bind fun t16 => (if t16 = 0 then (cb (fX12_expression x0 σ15) fun _ σ17 => (fX12_tellLaw_b110 K12 x0 x1 x2 (x3 + (1 : Int32)) σ17)) else (fX12_tellLaw_b110 K12 x0 x1 x2 (x3 + (1 : Int32)) σ15))))))))))))))))) else (some ((), σ))))
set_option maxHeartbeats 2000000 in
theorem sX12_tellLaw_b38 {G : GP} {n0 : Nat} {K12 : Nat → Int32 → Int32 → Int32 → Sto → Option (Unit × Sto)} (hK12 : ∀ (x0 : Nat) (x1 : Int32) (x2 : Int32) (x3 : Int32) (σ : Sto), Sim G mX12_tellLaw 6 0 0 n0 jV 0 0 12 [(0, .ref x0), (1, .int x1), (2, .int x2), (3, .int x3)] [] σ (K12 x0 x1 x2 x3 σ)) : ∀ (x0 : Nat) (x1 : Int32) (x2 : Int32) (x3 : Int32) (σ : Sto), Sim G mX12_tellLaw 6 0 0 n0 jV 0 0 38 [(0, .ref x0), (1, .int x1), (2, .int x2), (3, .int x3)] [] σ (fX12_tellLaw_b38 K12 x0 x1 x2 x3 σ) := by
  intro x0 x1 x2 x3 σ
  unfold fX12_tellLaw_b38
  refine hj_aload_n 0 dX12_tellLaw_38 rfl ?_
  refine hj_getI flX12_191 dX12_tellLaw_39 (fun t1 _ => ?_)
  refine hj_if_le 46 dX12_tellLaw_42 (by decide) (fun _ => ?_) (fun _ => ?_)
  · refine hj_iinc (lv' := [(0, .ref x0), (1, .int x1), (2, .int x2), (3, .int (x3 + (1 : Int32)))]) 3 (1 : Int32) dX12_tellLaw_46 rfl (by decide) (by decide) [1, 2, 3, 0] rfl ?_
    refine hj_aload_n 0 dX12_tellLaw_49 rfl ?_
    refine hj_callV (ci := 12) (M' := mX12_goesOn) (h' := 2) (As := []) mfX12_goesOn mvX12_goesOn ⟨_, _, rfl⟩ mlX12_212 dX12_tellLaw_50 (kX12_goesOn G _ _) (fun _ hr => cX12_goesOnk hr) ⟨Nat.le_of_ble_eq_true rfl, Nat.le_of_ble_eq_true rfl⟩ ⟨Nat.le_refl _, Nat.le_refl _⟩ rfl (Nat.le_of_ble_eq_true rfl) (fun _ σ2 _ => ?_)
    refine hj_aload_n 0 dX12_tellLaw_53 rfl ?_
    refine hj_getR flX12_76 dX12_tellLaw_54 (fun t3 _ => ?_)
    refine hj_aload_n 0 dX12_tellLaw_57 rfl ?_
    refine hj_getI flX12_230 dX12_tellLaw_58 (fun t4 _ => ?_)
    refine hj_iconst (1 : Int32) dX12_tellLaw_61 (by decide) ?_
    refine hj_zast dX12_tellLaw_62 (fun σ5 _ => ?_)
    refine hj_aload_n 0 dX12_tellLaw_63 rfl ?_
    refine hj_getR flX12_80 dX12_tellLaw_64 (fun t6 _ => ?_)
    refine hj_aload_n 0 dX12_tellLaw_67 rfl ?_
    refine hj_getI flX12_230 dX12_tellLaw_68 (fun t7 _ => ?_)
    refine hj_aload_n 0 dX12_tellLaw_71 rfl ?_
    refine hj_getI flX12_233 dX12_tellLaw_72 (fun t8 _ => ?_)
    refine hj_iast dX12_tellLaw_75 (fun σ9 _ => ?_)
    refine hj_aload_n 0 dX12_tellLaw_76 rfl ?_
    refine hj_callV (ci := 12) (M' := mX12_expression) (h' := 4) (As := []) mfX12_expression mvX12_expression ⟨_, _, rfl⟩ mlX12_275 dX12_tellLaw_77 (kX12_expression G _ _) (fun _ hr => cX12_expressionk hr) ⟨Nat.le_of_ble_eq_true rfl, Nat.le_of_ble_eq_true rfl⟩ ⟨Nat.le_refl _, Nat.le_refl _⟩ rfl (Nat.le_of_ble_eq_true rfl) (fun _ σ10 _ => ?_)
    refine hj_aload_n 0 dX12_tellLaw_80 rfl ?_
    refine hj_bipush (13 : Int32) dX12_tellLaw_81 (by decide) ?_
    refine hj_callV (ci := 12) (M' := mX12_must) (h' := 3) (As := [.int ((13 : Int32))]) mfX12_must mvX12_must ⟨_, _, rfl⟩ mlX12_263 dX12_tellLaw_83 (kX12_must G _ _ _) (fun _ hr => cX12_mustk hr) ⟨Nat.le_of_ble_eq_true rfl, Nat.le_of_ble_eq_true rfl⟩ ⟨Nat.le_refl _, Nat.le_refl _⟩ rfl (Nat.le_of_ble_eq_true rfl) (fun _ σ11 _ => ?_)
    refine hj_aload_n 0 dX12_tellLaw_86 rfl ?_
    refine hj_getR flX12_83 dX12_tellLaw_87 (fun t12 _ => ?_)
    refine hj_aload_n 0 dX12_tellLaw_90 rfl ?_
    refine hj_getI flX12_230 dX12_tellLaw_91 (fun t13 _ => ?_)
    refine hj_aload_n 0 dX12_tellLaw_94 rfl ?_
    refine hj_getI flX12_233 dX12_tellLaw_95 (fun t14 _ => ?_)
    refine hj_iast dX12_tellLaw_98 (fun σ15 _ => ?_)
    refine hj_aload_n 0 dX12_tellLaw_99 rfl ?_
    refine hj_getI flX12_191 dX12_tellLaw_100 (fun t16 _ => ?_)
    refine hj_if_ne 110 dX12_tellLaw_103 (by decide) (fun _ => ?_) (fun _ => ?_)
    · refine hj_loc (lv' := [(0, .ref x0), (1, .int x1), (2, .int x2), (3, .int (x3 + (1 : Int32)))]) [0, 1, 2, 3] rfl ?_
      exact sX12_tellLaw_b110 hK12 _ _ _ _ _
    · refine hj_aload_n 0 dX12_tellLaw_106 rfl ?_
      refine hj_callV (ci := 12) (M' := mX12_expression) (h' := 4) (As := []) mfX12_expression mvX12_expression ⟨_, _, rfl⟩ mlX12_275 dX12_tellLaw_107 (kX12_expression G _ _) (fun _ hr => cX12_expressionk hr) ⟨Nat.le_of_ble_eq_true rfl, Nat.le_of_ble_eq_true rfl⟩ ⟨Nat.le_refl _, Nat.le_refl _⟩ rfl (Nat.le_of_ble_eq_true rfl) (fun _ σ17 _ => ?_)
      refine hj_loc (lv' := [(0, .ref x0), (1, .int x1), (2, .int x2), (3, .int (x3 + (1 : Int32)))]) [0, 1, 2, 3] rfl ?_
      exact sX12_tellLaw_b110 hK12 _ _ _ _ _
  · exact hj_vret dX12_tellLaw_45 rfl rfl (Nat.le_refl _)
def fX12_tellLaw_b12 : Nat → Nat → Int32 → Int32 → Int32 → Sto → Option (Unit × Sto)
  | 0, _, _, _, _, _ => none
  | n + 1, x0, x1, x2, x3, σ => ((gI σ 12 x0 13).bind fun t31 => (if t31 = 0 then (cb (fX12_is x0 ((28 : Int32)) σ) fun r33 σ32 => (if r33 = 0 then (fX12_tellLaw_b129 x0 x1 x2 σ32) else (if x3 = (4 : Int32) then (cb (fX12_fail x0 ((2 : Int32)) σ32) fun _ σ34 => (fX12_tellLaw_b38 (fX12_tellLaw_b12 n) x0 x1 x2 x3 σ34)) else (fX12_tellLaw_b38 (fX12_tellLaw_b12 n) x0 x1 x2 x3 σ32)))) else (fX12_tellLaw_b129 x0 x1 x2 σ)))
set_option maxHeartbeats 2000000 in
theorem sX12_tellLaw_b12 {G : GP} {n0 : Nat} : ∀ (n : Nat) (x0 : Nat) (x1 : Int32) (x2 : Int32) (x3 : Int32) (σ : Sto), Sim G mX12_tellLaw 6 0 0 n0 jV 0 0 12 [(0, .ref x0), (1, .int x1), (2, .int x2), (3, .int x3)] [] σ (fX12_tellLaw_b12 n x0 x1 x2 x3 σ) := by
  intro n
  induction n with
  | zero => intros; rw [fX12_tellLaw_b12]; exact hj_none
  | succ n ih =>
    intro x0 x1 x2 x3 σ
    rw [fX12_tellLaw_b12]
    refine hj_aload_n 0 dX12_tellLaw_12 rfl ?_
    refine hj_getI flX12_191 dX12_tellLaw_13 (fun t31 _ => ?_)
    refine hj_if_ne 129 dX12_tellLaw_16 (by decide) (fun _ => ?_) (fun _ => ?_)
    · refine hj_loc (lv' := [(0, .ref x0), (1, .int x1), (2, .int x2)]) [0, 1, 2] rfl ?_
      exact sX12_tellLaw_b129 _ _ _ _
    · refine hj_aload_n 0 dX12_tellLaw_19 rfl ?_
      refine hj_bipush (28 : Int32) dX12_tellLaw_20 (by decide) ?_
      refine hj_callV (ci := 12) (M' := mX12_is) (h' := 1) (As := [.int ((28 : Int32))]) mfX12_is mvX12_is ⟨_, _, rfl⟩ mlX12_209 dX12_tellLaw_22 (kX12_is G _ _ _) (fun _ hr => cX12_isk hr) ⟨Nat.le_of_ble_eq_true rfl, Nat.le_of_ble_eq_true rfl⟩ ⟨Nat.le_refl _, Nat.le_refl _⟩ rfl (Nat.le_of_ble_eq_true rfl) (fun r33 σ32 _ => ?_)
      refine hj_if_eq 129 dX12_tellLaw_25 (by decide) (fun _ => ?_) (fun _ => ?_)
      · refine hj_loc (lv' := [(0, .ref x0), (1, .int x1), (2, .int x2)]) [0, 1, 2] rfl ?_
        exact sX12_tellLaw_b129 _ _ _ _
      · refine hj_iload_n 3 dX12_tellLaw_28 rfl ?_
        refine hj_iconst (4 : Int32) dX12_tellLaw_29 (by decide) ?_
        refine hj_icmp_ne 38 dX12_tellLaw_30 (by decide) (fun _ => ?_) (fun _ => ?_)
        · refine hj_loc (lv' := [(0, .ref x0), (1, .int x1), (2, .int x2), (3, .int x3)]) [0, 1, 2, 3] rfl ?_
          exact sX12_tellLaw_b38 ih _ _ _ _ _
        · refine hj_aload_n 0 dX12_tellLaw_33 rfl ?_
          refine hj_iconst (2 : Int32) dX12_tellLaw_34 (by decide) ?_
          refine hj_callV (ci := 12) (M' := mX12_fail) (h' := 1) (As := [.int ((2 : Int32))]) mfX12_fail mvX12_fail ⟨_, _, rfl⟩ mlX12_206 dX12_tellLaw_35 (kX12_fail G _ _ _) (fun _ hr => cX12_failk hr) ⟨Nat.le_of_ble_eq_true rfl, Nat.le_of_ble_eq_true rfl⟩ ⟨Nat.le_refl _, Nat.le_refl _⟩ rfl (Nat.le_of_ble_eq_true rfl) (fun _ σ34 _ => ?_)
          refine hj_loc (lv' := [(0, .ref x0), (1, .int x1), (2, .int x2), (3, .int x3)]) [0, 1, 2, 3] rfl ?_
          exact sX12_tellLaw_b38 ih _ _ _ _ _
def fX12_tellLaw (a0 : Nat) (a1 : Int32) (σ : Sto) : Option (Unit × Sto) := ck σ 12 a0 (cb (fX12_must a0 ((5 : Int32)) σ) fun _ σ38 => ((gI σ38 12 a0 33).bind fun t39 => (fX12_tellLaw_b12 FU a0 a1 t39 ((0 : Int32)) σ38)))
set_option maxHeartbeats 2000000 in
theorem kX12_tellLaw (G : GP) (a0 : Nat) (a1 : Int32) (σ : Sto) : Me G mX12_tellLaw 6 0 0 jV [.ref a0, .int a1] σ (fX12_tellLaw a0 a1 σ) := by
  refine hs_me (lv := [(0, .ref a0), (1, .int a1)]) (plainFor_of_name (by decide +kernel)) (Nat.le_of_ble_eq_true rfl) rfl ?_
  unfold fX12_tellLaw
  refine hj_ck ?_
  refine hj_aload_n 0 dX12_tellLaw_0 rfl ?_
  refine hj_iconst (5 : Int32) dX12_tellLaw_1 (by decide) ?_
  refine hj_callV (ci := 12) (M' := mX12_must) (h' := 3) (As := [.int ((5 : Int32))]) mfX12_must mvX12_must ⟨_, _, rfl⟩ mlX12_263 dX12_tellLaw_2 (kX12_must G _ _ _) (fun _ hr => cX12_mustk hr) ⟨Nat.le_of_ble_eq_true rfl, Nat.le_of_ble_eq_true rfl⟩ ⟨Nat.le_refl _, Nat.le_refl _⟩ rfl (Nat.le_of_ble_eq_true rfl) (fun _ σ38 _ => ?_)
  refine hj_aload_n 0 dX12_tellLaw_5 rfl ?_
  refine hj_getI flX12_230 dX12_tellLaw_6 (fun t39 _ => ?_)
  refine hj_istore_n (lv' := [(0, .ref a0), (1, .int a1), (2, .int t39)]) dX12_tellLaw_9 (by decide) [1, 2, 0] rfl ?_
  refine hj_iconst (0 : Int32) dX12_tellLaw_10 (by decide) ?_
  refine hj_istore_n (lv' := [(0, .ref a0), (1, .int a1), (2, .int t39), (3, .int (0 : Int32))]) dX12_tellLaw_11 (by decide) [1, 2, 3, 0] rfl ?_
  refine hj_loc (lv' := [(0, .ref a0), (1, .int a1), (2, .int t39), (3, .int (0 : Int32))]) [0, 1, 2, 3] rfl ?_
  exact sX12_tellLaw_b12 _ _ _ _ _ _
theorem cX12_tellLawk {a0 : Nat} {a1 : Int32} {σ : Sto} {r : Unit × Sto} (h : fX12_tellLaw a0 a1 σ = some r) : ∃ fs, hs_o σ 12 a0 = some fs := (ck_of h).1
def fX12_tellPile_b228 (x0 : Nat) (x1 : Int32) (σ : Sto) : Option (Unit × Sto) := (cb (fX12_must x0 ((4 : Int32)) σ) fun _ σ11 => ((gR σ11 12 x0 30).bind fun t12 => ((gI σ11 12 x0 19).bind fun t13 => (if (6 : Int32) ≤ x1 then ((sI σ11 2 t12 ((((((20 : Int32)) * t13)) + ((18 : Int32)))) ((6 : Int32))).bind fun σ14 => (some ((), σ14))) else ((sI σ11 2 t12 ((((((20 : Int32)) * t13)) + ((18 : Int32)))) x1).bind fun σ15 => (some ((), σ15)))))))
set_option maxHeartbeats 2000000 in
theorem sX12_tellPile_b228 {G : GP} {n0 : Nat} : ∀ (x0 : Nat) (x1 : Int32) (σ : Sto), Sim G mX12_tellPile 5 0 0 n0 jV 0 0 228 [(0, .ref x0), (1, .int x1)] [] σ (fX12_tellPile_b228 x0 x1 σ) := by
  intro x0 x1 σ
  unfold fX12_tellPile_b228
  refine hj_aload_n 0 dX12_tellPile_228 rfl ?_
  refine hj_iconst (4 : Int32) dX12_tellPile_229 (by decide) ?_
  refine hj_callV (ci := 12) (M' := mX12_must) (h' := 3) (As := [.int ((4 : Int32))]) mfX12_must mvX12_must ⟨_, _, rfl⟩ mlX12_263 dX12_tellPile_230 (kX12_must G _ _ _) (fun _ hr => cX12_mustk hr) ⟨Nat.le_of_ble_eq_true rfl, Nat.le_of_ble_eq_true rfl⟩ ⟨Nat.le_refl _, Nat.le_refl _⟩ rfl (Nat.le_of_ble_eq_true rfl) (fun _ σ11 _ => ?_)
  refine hj_aload_n 0 dX12_tellPile_233 rfl ?_
  refine hj_getR flX12_67 dX12_tellPile_234 (fun t12 _ => ?_)
  refine hj_bipush (20 : Int32) dX12_tellPile_237 (by decide) ?_
  refine hj_aload_n 0 dX12_tellPile_239 rfl ?_
  refine hj_getI flX12_224 dX12_tellPile_240 (fun t13 _ => ?_)
  refine hj_imul dX12_tellPile_243 ?_
  refine hj_bipush (18 : Int32) dX12_tellPile_244 (by decide) ?_
  refine hj_iadd dX12_tellPile_246 ?_
  refine hj_iload_n 1 dX12_tellPile_247 rfl ?_
  refine hj_bipush (6 : Int32) dX12_tellPile_248 (by decide) ?_
  refine hj_icmp_ge 257 dX12_tellPile_250 (by decide) (fun _ => ?_) (fun _ => ?_)
  · refine hj_bipush (6 : Int32) dX12_tellPile_257 (by decide) ?_
    refine hj_iast dX12_tellPile_259 (fun σ14 _ => ?_)
    exact hj_vret dX12_tellPile_260 rfl rfl (Nat.le_refl _)
  · refine hj_iload_n 1 dX12_tellPile_253 rfl ?_
    refine hj_goto 259 dX12_tellPile_254 (by decide) ?_
    refine hj_iast dX12_tellPile_259 (fun σ15 _ => ?_)
    exact hj_vret dX12_tellPile_260 rfl rfl (Nat.le_refl _)
def fX12_tellPile_b222 (K4 : Nat → Int32 → Int32 → Sto → Option (Unit × Sto)) (x0 : Nat) (x1 : Int32) (x2 : Int32) (σ : Sto) : Option (Unit × Sto) := (K4 x0 (x1 + (1 : Int32)) x2 σ)
set_option maxHeartbeats 2000000 in
theorem sX12_tellPile_b222 {G : GP} {n0 : Nat} {K4 : Nat → Int32 → Int32 → Sto → Option (Unit × Sto)} (hK4 : ∀ (x0 : Nat) (x1 : Int32) (x2 : Int32) (σ : Sto), Sim G mX12_tellPile 5 0 0 n0 jV 0 0 4 [(0, .ref x0), (1, .int x1), (2, .int x2)] [] σ (K4 x0 x1 x2 σ)) : ∀ (x0 : Nat) (x1 : Int32) (x2 : Int32) (σ : Sto), Sim G mX12_tellPile 5 0 0 n0 jV 0 0 222 [(0, .ref x0), (1, .int x1), (2, .int x2)] [] σ (fX12_tellPile_b222 K4 x0 x1 x2 σ) := by
  intro x0 x1 x2 σ
  unfold fX12_tellPile_b222
  refine hj_iinc (lv' := [(0, .ref x0), (1, .int (x1 + (1 : Int32))), (2, .int x2)]) 1 (1 : Int32) dX12_tellPile_222 rfl (by decide) (by decide) [1, 0, 2] rfl ?_
  refine hj_goto 4 dX12_tellPile_225 (by decide) ?_
  refine hj_loc (lv' := [(0, .ref x0), (1, .int (x1 + (1 : Int32))), (2, .int x2)]) [0, 1, 2] rfl ?_
  exact hK4 _ _ _ _
def fX12_tellPile_b221 (K4 : Nat → Int32 → Int32 → Sto → Option (Unit × Sto)) (x0 : Nat) (x1 : Int32) (x2 : Int32) (y0 : Nat) (y1 : Int32) (y2 : Int32) (σ : Sto) : Option (Unit × Sto) := ((sI σ 2 y0 y1 y2).bind fun σ29 => (fX12_tellPile_b222 K4 x0 x1 x2 σ29))
set_option maxHeartbeats 2000000 in
theorem sX12_tellPile_b221 {G : GP} {n0 : Nat} {K4 : Nat → Int32 → Int32 → Sto → Option (Unit × Sto)} (hK4 : ∀ (x0 : Nat) (x1 : Int32) (x2 : Int32) (σ : Sto), Sim G mX12_tellPile 5 0 0 n0 jV 0 0 4 [(0, .ref x0), (1, .int x1), (2, .int x2)] [] σ (K4 x0 x1 x2 σ)) : ∀ (x0 : Nat) (x1 : Int32) (x2 : Int32) (y0 : Nat) (y1 : Int32) (y2 : Int32) (σ : Sto), Sim G mX12_tellPile 5 0 0 n0 jV 0 0 221 [(0, .ref x0), (1, .int x1), (2, .int x2)] [.int y2, .int y1, .ref y0] σ (fX12_tellPile_b221 K4 x0 x1 x2 y0 y1 y2 σ) := by
  intro x0 x1 x2 y0 y1 y2 σ
  unfold fX12_tellPile_b221
  refine hj_iast dX12_tellPile_221 (fun σ29 _ => ?_)
  refine hj_loc (lv' := [(0, .ref x0), (1, .int x1), (2, .int x2)]) [0, 1, 2] rfl ?_
  exact sX12_tellPile_b222 hK4 _ _ _ _
def fX12_tellPile_b194 (K4 : Nat → Int32 → Int32 → Sto → Option (Unit × Sto)) (x0 : Nat) (x1 : Int32) (x2 : Int32) (x7 : Int32) (y0 : Nat) (y1 : Int32) (y2 : Int32) (σ : Sto) : Option (Unit × Sto) := ((sI σ 2 y0 y1 y2).bind fun σ1 => ((gR σ1 12 x0 30).bind fun t2 => ((gI σ1 12 x0 19).bind fun t3 => (if x7 = 0 then (fX12_tellPile_b221 K4 x0 x1 x2 t2 ((((((((20 : Int32)) * t3)) + ((12 : Int32)))) + x1)) ((0 : Int32)) σ1) else (fX12_tellPile_b221 K4 x0 x1 x2 t2 ((((((((20 : Int32)) * t3)) + ((12 : Int32)))) + x1)) ((1 : Int32)) σ1)))))
set_option maxHeartbeats 2000000 in
theorem sX12_tellPile_b194 {G : GP} {n0 : Nat} {K4 : Nat → Int32 → Int32 → Sto → Option (Unit × Sto)} (hK4 : ∀ (x0 : Nat) (x1 : Int32) (x2 : Int32) (σ : Sto), Sim G mX12_tellPile 5 0 0 n0 jV 0 0 4 [(0, .ref x0), (1, .int x1), (2, .int x2)] [] σ (K4 x0 x1 x2 σ)) : ∀ (x0 : Nat) (x1 : Int32) (x2 : Int32) (x7 : Int32) (y0 : Nat) (y1 : Int32) (y2 : Int32) (σ : Sto), Sim G mX12_tellPile 5 0 0 n0 jV 0 0 194 [(0, .ref x0), (1, .int x1), (2, .int x2), (7, .int x7)] [.int y2, .int y1, .ref y0] σ (fX12_tellPile_b194 K4 x0 x1 x2 x7 y0 y1 y2 σ) := by
  intro x0 x1 x2 x7 y0 y1 y2 σ
  unfold fX12_tellPile_b194
  refine hj_iast dX12_tellPile_194 (fun σ1 _ => ?_)
  refine hj_aload_n 0 dX12_tellPile_195 rfl ?_
  refine hj_getR flX12_67 dX12_tellPile_196 (fun t2 _ => ?_)
  refine hj_bipush (20 : Int32) dX12_tellPile_199 (by decide) ?_
  refine hj_aload_n 0 dX12_tellPile_201 rfl ?_
  refine hj_getI flX12_224 dX12_tellPile_202 (fun t3 _ => ?_)
  refine hj_imul dX12_tellPile_205 ?_
  refine hj_bipush (12 : Int32) dX12_tellPile_206 (by decide) ?_
  refine hj_iadd dX12_tellPile_208 ?_
  refine hj_iload_n 1 dX12_tellPile_209 rfl ?_
  refine hj_iadd dX12_tellPile_210 ?_
  refine hj_iload 3 dX12_tellPile_211 rfl ?_
  refine hj_if_eq 220 dX12_tellPile_213 (by decide) (fun _ => ?_) (fun _ => ?_)
  · refine hj_iconst (0 : Int32) dX12_tellPile_220 (by decide) ?_
    refine hj_loc (lv' := [(0, .ref x0), (1, .int x1), (2, .int x2)]) [0, 1, 2] rfl ?_
    exact sX12_tellPile_b221 hK4 _ _ _ _ _ _ _
  · refine hj_iconst (1 : Int32) dX12_tellPile_216 (by decide) ?_
    refine hj_goto 221 dX12_tellPile_217 (by decide) ?_
    refine hj_loc (lv' := [(0, .ref x0), (1, .int x1), (2, .int x2)]) [0, 1, 2] rfl ?_
    exact sX12_tellPile_b221 hK4 _ _ _ _ _ _ _
def fX12_tellPile_b143 (K4 : Nat → Int32 → Int32 → Sto → Option (Unit × Sto)) (x0 : Nat) (x1 : Int32) (x2 : Int32) (x4 : Int32) (x5 : Int32) (x6 : Int32) (x7 : Int32) (σ : Sto) : Option (Unit × Sto) := (if (6 : Int32) ≤ x1 then (fX12_tellPile_b222 K4 x0 x1 x2 σ) else ((gR σ 12 x0 30).bind fun t22 => ((gI σ 12 x0 19).bind fun t23 => ((sI σ 2 t22 ((((((20 : Int32)) * t23)) + x1)) x4).bind fun σ24 => ((gR σ24 12 x0 30).bind fun t25 => ((gI σ24 12 x0 19).bind fun t26 => (if x5 = 0 then (fX12_tellPile_b194 K4 x0 x1 x2 x7 t25 ((((((((20 : Int32)) * t26)) + ((6 : Int32)))) + x1)) x6 σ24) else (fX12_tellPile_b194 K4 x0 x1 x2 x7 t25 ((((((((20 : Int32)) * t26)) + ((6 : Int32)))) + x1)) ((-x6)) σ24))))))))
set_option maxHeartbeats 2000000 in
theorem sX12_tellPile_b143 {G : GP} {n0 : Nat} {K4 : Nat → Int32 → Int32 → Sto → Option (Unit × Sto)} (hK4 : ∀ (x0 : Nat) (x1 : Int32) (x2 : Int32) (σ : Sto), Sim G mX12_tellPile 5 0 0 n0 jV 0 0 4 [(0, .ref x0), (1, .int x1), (2, .int x2)] [] σ (K4 x0 x1 x2 σ)) : ∀ (x0 : Nat) (x1 : Int32) (x2 : Int32) (x4 : Int32) (x5 : Int32) (x6 : Int32) (x7 : Int32) (σ : Sto), Sim G mX12_tellPile 5 0 0 n0 jV 0 0 143 [(0, .ref x0), (1, .int x1), (2, .int x2), (4, .int x4), (5, .int x5), (6, .int x6), (7, .int x7)] [] σ (fX12_tellPile_b143 K4 x0 x1 x2 x4 x5 x6 x7 σ) := by
  intro x0 x1 x2 x4 x5 x6 x7 σ
  unfold fX12_tellPile_b143
  refine hj_iload_n 1 dX12_tellPile_143 rfl ?_
  refine hj_bipush (6 : Int32) dX12_tellPile_144 (by decide) ?_
  refine hj_icmp_ge 222 dX12_tellPile_146 (by decide) (fun _ => ?_) (fun _ => ?_)
  · refine hj_loc (lv' := [(0, .ref x0), (1, .int x1), (2, .int x2)]) [0, 1, 2] rfl ?_
    exact sX12_tellPile_b222 hK4 _ _ _ _
  · refine hj_aload_n 0 dX12_tellPile_149 rfl ?_
    refine hj_getR flX12_67 dX12_tellPile_150 (fun t22 _ => ?_)
    refine hj_bipush (20 : Int32) dX12_tellPile_153 (by decide) ?_
    refine hj_aload_n 0 dX12_tellPile_155 rfl ?_
    refine hj_getI flX12_224 dX12_tellPile_156 (fun t23 _ => ?_)
    refine hj_imul dX12_tellPile_159 ?_
    refine hj_iload_n 1 dX12_tellPile_160 rfl ?_
    refine hj_iadd dX12_tellPile_161 ?_
    refine hj_iload 3 dX12_tellPile_162 rfl ?_
    refine hj_iast dX12_tellPile_164 (fun σ24 _ => ?_)
    refine hj_aload_n 0 dX12_tellPile_165 rfl ?_
    refine hj_getR flX12_67 dX12_tellPile_166 (fun t25 _ => ?_)
    refine hj_bipush (20 : Int32) dX12_tellPile_169 (by decide) ?_
    refine hj_aload_n 0 dX12_tellPile_171 rfl ?_
    refine hj_getI flX12_224 dX12_tellPile_172 (fun t26 _ => ?_)
    refine hj_imul dX12_tellPile_175 ?_
    refine hj_bipush (6 : Int32) dX12_tellPile_176 (by decide) ?_
    refine hj_iadd dX12_tellPile_178 ?_
    refine hj_iload_n 1 dX12_tellPile_179 rfl ?_
    refine hj_iadd dX12_tellPile_180 ?_
    refine hj_iload 4 dX12_tellPile_181 rfl ?_
    refine hj_if_eq 192 dX12_tellPile_183 (by decide) (fun _ => ?_) (fun _ => ?_)
    · refine hj_iload 5 dX12_tellPile_192 rfl ?_
      refine hj_loc (lv' := [(0, .ref x0), (1, .int x1), (2, .int x2), (7, .int x7)]) [0, 1, 2, 6] rfl ?_
      exact sX12_tellPile_b194 hK4 _ _ _ _ _ _ _ _
    · refine hj_iload 5 dX12_tellPile_186 rfl ?_
      refine hj_ineg dX12_tellPile_188 ?_
      refine hj_goto 194 dX12_tellPile_189 (by decide) ?_
      refine hj_loc (lv' := [(0, .ref x0), (1, .int x1), (2, .int x2), (7, .int x7)]) [0, 1, 2, 6] rfl ?_
      exact sX12_tellPile_b194 hK4 _ _ _ _ _ _ _ _
def fX12_tellPile_b132 (K4 : Nat → Int32 → Int32 → Sto → Option (Unit × Sto)) (x0 : Nat) (x1 : Int32) (x2 : Int32) (x4 : Int32) (x5 : Int32) (x6 : Int32) (y0 : Int32) (σ : Sto) : Option (Unit × Sto) := (if y0 = 0 then (fX12_tellPile_b143 K4 x0 x1 x2 x4 x5 x6 y0 σ) else (cb (fX12_goesOn x0 σ) fun _ σ16 => (fX12_tellPile_b143 K4 x0 x1 x2 x4 x5 x6 y0 σ16)))
set_option maxHeartbeats 2000000 in
theorem sX12_tellPile_b132 {G : GP} {n0 : Nat} {K4 : Nat → Int32 → Int32 → Sto → Option (Unit × Sto)} (hK4 : ∀ (x0 : Nat) (x1 : Int32) (x2 : Int32) (σ : Sto), Sim G mX12_tellPile 5 0 0 n0 jV 0 0 4 [(0, .ref x0), (1, .int x1), (2, .int x2)] [] σ (K4 x0 x1 x2 σ)) : ∀ (x0 : Nat) (x1 : Int32) (x2 : Int32) (x4 : Int32) (x5 : Int32) (x6 : Int32) (y0 : Int32) (σ : Sto), Sim G mX12_tellPile 5 0 0 n0 jV 0 0 132 [(0, .ref x0), (1, .int x1), (2, .int x2), (4, .int x4), (5, .int x5), (6, .int x6)] [.int y0] σ (fX12_tellPile_b132 K4 x0 x1 x2 x4 x5 x6 y0 σ) := by
  intro x0 x1 x2 x4 x5 x6 y0 σ
  unfold fX12_tellPile_b132
  refine hj_istore (lv' := [(0, .ref x0), (1, .int x1), (2, .int x2), (4, .int x4), (5, .int x5), (6, .int x6), (7, .int y0)]) dX12_tellPile_132 (by decide) [1, 2, 3, 4, 5, 6, 0] rfl ?_
  refine hj_iload 6 dX12_tellPile_134 rfl ?_
  refine hj_if_eq 143 dX12_tellPile_136 (by decide) (fun _ => ?_) (fun _ => ?_)
  · refine hj_loc (lv' := [(0, .ref x0), (1, .int x1), (2, .int x2), (4, .int x4), (5, .int x5), (6, .int x6), (7, .int y0)]) [0, 1, 2, 3, 4, 5, 6] rfl ?_
    exact sX12_tellPile_b143 hK4 _ _ _ _ _ _ _ _
  · refine hj_aload_n 0 dX12_tellPile_139 rfl ?_
    refine hj_callV (ci := 12) (M' := mX12_goesOn) (h' := 2) (As := []) mfX12_goesOn mvX12_goesOn ⟨_, _, rfl⟩ mlX12_212 dX12_tellPile_140 (kX12_goesOn G _ _) (fun _ hr => cX12_goesOnk hr) ⟨Nat.le_of_ble_eq_true rfl, Nat.le_of_ble_eq_true rfl⟩ ⟨Nat.le_refl _, Nat.le_refl _⟩ rfl (Nat.le_of_ble_eq_true rfl) (fun _ σ16 _ => ?_)
    refine hj_loc (lv' := [(0, .ref x0), (1, .int x1), (2, .int x2), (4, .int x4), (5, .int x5), (6, .int x6), (7, .int y0)]) [0, 1, 2, 3, 4, 5, 6] rfl ?_
    exact sX12_tellPile_b143 hK4 _ _ _ _ _ _ _ _
def fX12_tellPile_b131 (K4 : Nat → Int32 → Int32 → Sto → Option (Unit × Sto)) (x0 : Nat) (x1 : Int32) (x2 : Int32) (x4 : Int32) (x5 : Int32) (x6 : Int32) (σ : Sto) : Option (Unit × Sto) := (fX12_tellPile_b132 K4 x0 x1 x2 x4 x5 x6 ((0 : Int32)) σ)
set_option maxHeartbeats 2000000 in
theorem sX12_tellPile_b131 {G : GP} {n0 : Nat} {K4 : Nat → Int32 → Int32 → Sto → Option (Unit × Sto)} (hK4 : ∀ (x0 : Nat) (x1 : Int32) (x2 : Int32) (σ : Sto), Sim G mX12_tellPile 5 0 0 n0 jV 0 0 4 [(0, .ref x0), (1, .int x1), (2, .int x2)] [] σ (K4 x0 x1 x2 σ)) : ∀ (x0 : Nat) (x1 : Int32) (x2 : Int32) (x4 : Int32) (x5 : Int32) (x6 : Int32) (σ : Sto), Sim G mX12_tellPile 5 0 0 n0 jV 0 0 131 [(0, .ref x0), (1, .int x1), (2, .int x2), (4, .int x4), (5, .int x5), (6, .int x6)] [] σ (fX12_tellPile_b131 K4 x0 x1 x2 x4 x5 x6 σ) := by
  intro x0 x1 x2 x4 x5 x6 σ
  unfold fX12_tellPile_b131
  refine hj_iconst (0 : Int32) dX12_tellPile_131 (by decide) ?_
  refine hj_loc (lv' := [(0, .ref x0), (1, .int x1), (2, .int x2), (4, .int x4), (5, .int x5), (6, .int x6)]) [0, 1, 2, 3, 4, 5] rfl ?_
  exact sX12_tellPile_b132 hK4 _ _ _ _ _ _ _ _
def fX12_tellPile_b101 (K4 : Nat → Int32 → Int32 → Sto → Option (Unit × Sto)) (x0 : Nat) (x1 : Int32) (x2 : Int32) (x4 : Int32) (x5 : Int32) (σ : Sto) : Option (Unit × Sto) := (cb (fX12_bounded x0 ((0 : Int32)) ((999 : Int32)) σ) fun r18 σ17 => ((gI σ17 12 x0 13).bind fun t19 => (if t19 = 0 then (cb (fX12_is x0 ((25 : Int32)) σ17) fun r21 σ20 => (if r21 = 0 then (fX12_tellPile_b131 K4 x0 x1 x2 x4 x5 r18 σ20) else (fX12_tellPile_b132 K4 x0 x1 x2 x4 x5 r18 ((1 : Int32)) σ20))) else (fX12_tellPile_b131 K4 x0 x1 x2 x4 x5 r18 σ17))))
set_option maxHeartbeats 2000000 in
theorem sX12_tellPile_b101 {G : GP} {n0 : Nat} {K4 : Nat → Int32 → Int32 → Sto → Option (Unit × Sto)} (hK4 : ∀ (x0 : Nat) (x1 : Int32) (x2 : Int32) (σ : Sto), Sim G mX12_tellPile 5 0 0 n0 jV 0 0 4 [(0, .ref x0), (1, .int x1), (2, .int x2)] [] σ (K4 x0 x1 x2 σ)) : ∀ (x0 : Nat) (x1 : Int32) (x2 : Int32) (x4 : Int32) (x5 : Int32) (σ : Sto), Sim G mX12_tellPile 5 0 0 n0 jV 0 0 101 [(0, .ref x0), (1, .int x1), (2, .int x2), (4, .int x4), (5, .int x5)] [] σ (fX12_tellPile_b101 K4 x0 x1 x2 x4 x5 σ) := by
  intro x0 x1 x2 x4 x5 σ
  unfold fX12_tellPile_b101
  refine hj_aload_n 0 dX12_tellPile_101 rfl ?_
  refine hj_iconst (0 : Int32) dX12_tellPile_102 (by decide) ?_
  refine hj_sipush (999 : Int32) dX12_tellPile_103 (by decide) ?_
  refine hj_callV (ci := 12) (M' := mX12_bounded) (h' := 3) (As := [.int ((0 : Int32)), .int ((999 : Int32))]) mfX12_bounded mvX12_bounded ⟨_, _, rfl⟩ mlX12_259 dX12_tellPile_106 (kX12_bounded G _ _ _ _) (fun _ hr => cX12_boundedk hr) ⟨Nat.le_of_ble_eq_true rfl, Nat.le_of_ble_eq_true rfl⟩ ⟨Nat.le_refl _, Nat.le_refl _⟩ rfl (Nat.le_of_ble_eq_true rfl) (fun r18 σ17 _ => ?_)
  refine hj_istore (lv' := [(0, .ref x0), (1, .int x1), (2, .int x2), (4, .int x4), (5, .int x5), (6, .int r18)]) dX12_tellPile_109 (by decide) [1, 2, 3, 4, 5, 0] rfl ?_
  refine hj_aload_n 0 dX12_tellPile_111 rfl ?_
  refine hj_getI flX12_191 dX12_tellPile_112 (fun t19 _ => ?_)
  refine hj_if_ne 131 dX12_tellPile_115 (by decide) (fun _ => ?_) (fun _ => ?_)
  · refine hj_loc (lv' := [(0, .ref x0), (1, .int x1), (2, .int x2), (4, .int x4), (5, .int x5), (6, .int r18)]) [0, 1, 2, 3, 4, 5] rfl ?_
    exact sX12_tellPile_b131 hK4 _ _ _ _ _ _ _
  · refine hj_aload_n 0 dX12_tellPile_118 rfl ?_
    refine hj_bipush (25 : Int32) dX12_tellPile_119 (by decide) ?_
    refine hj_callV (ci := 12) (M' := mX12_is) (h' := 1) (As := [.int ((25 : Int32))]) mfX12_is mvX12_is ⟨_, _, rfl⟩ mlX12_209 dX12_tellPile_121 (kX12_is G _ _ _) (fun _ hr => cX12_isk hr) ⟨Nat.le_of_ble_eq_true rfl, Nat.le_of_ble_eq_true rfl⟩ ⟨Nat.le_refl _, Nat.le_refl _⟩ rfl (Nat.le_of_ble_eq_true rfl) (fun r21 σ20 _ => ?_)
    refine hj_if_eq 131 dX12_tellPile_124 (by decide) (fun _ => ?_) (fun _ => ?_)
    · refine hj_loc (lv' := [(0, .ref x0), (1, .int x1), (2, .int x2), (4, .int x4), (5, .int x5), (6, .int r18)]) [0, 1, 2, 3, 4, 5] rfl ?_
      exact sX12_tellPile_b131 hK4 _ _ _ _ _ _ _
    · refine hj_iconst (1 : Int32) dX12_tellPile_127 (by decide) ?_
      refine hj_goto 132 dX12_tellPile_128 (by decide) ?_
      refine hj_loc (lv' := [(0, .ref x0), (1, .int x1), (2, .int x2), (4, .int x4), (5, .int x5), (6, .int r18)]) [0, 1, 2, 3, 4, 5] rfl ?_
      exact sX12_tellPile_b132 hK4 _ _ _ _ _ _ _ _
def fX12_tellPile_b90 (K4 : Nat → Int32 → Int32 → Sto → Option (Unit × Sto)) (x0 : Nat) (x1 : Int32) (x2 : Int32) (x4 : Int32) (y0 : Int32) (σ : Sto) : Option (Unit × Sto) := (if y0 = 0 then (fX12_tellPile_b101 K4 x0 x1 x2 x4 y0 σ) else (cb (fX12_goesOn x0 σ) fun _ σ28 => (fX12_tellPile_b101 K4 x0 x1 x2 x4 y0 σ28)))
set_option maxHeartbeats 2000000 in
theorem sX12_tellPile_b90 {G : GP} {n0 : Nat} {K4 : Nat → Int32 → Int32 → Sto → Option (Unit × Sto)} (hK4 : ∀ (x0 : Nat) (x1 : Int32) (x2 : Int32) (σ : Sto), Sim G mX12_tellPile 5 0 0 n0 jV 0 0 4 [(0, .ref x0), (1, .int x1), (2, .int x2)] [] σ (K4 x0 x1 x2 σ)) : ∀ (x0 : Nat) (x1 : Int32) (x2 : Int32) (x4 : Int32) (y0 : Int32) (σ : Sto), Sim G mX12_tellPile 5 0 0 n0 jV 0 0 90 [(0, .ref x0), (1, .int x1), (2, .int x2), (4, .int x4)] [.int y0] σ (fX12_tellPile_b90 K4 x0 x1 x2 x4 y0 σ) := by
  intro x0 x1 x2 x4 y0 σ
  unfold fX12_tellPile_b90
  refine hj_istore (lv' := [(0, .ref x0), (1, .int x1), (2, .int x2), (4, .int x4), (5, .int y0)]) dX12_tellPile_90 (by decide) [1, 2, 3, 4, 0] rfl ?_
  refine hj_iload 4 dX12_tellPile_92 rfl ?_
  refine hj_if_eq 101 dX12_tellPile_94 (by decide) (fun _ => ?_) (fun _ => ?_)
  · refine hj_loc (lv' := [(0, .ref x0), (1, .int x1), (2, .int x2), (4, .int x4), (5, .int y0)]) [0, 1, 2, 3, 4] rfl ?_
    exact sX12_tellPile_b101 hK4 _ _ _ _ _ _
  · refine hj_aload_n 0 dX12_tellPile_97 rfl ?_
    refine hj_callV (ci := 12) (M' := mX12_goesOn) (h' := 2) (As := []) mfX12_goesOn mvX12_goesOn ⟨_, _, rfl⟩ mlX12_212 dX12_tellPile_98 (kX12_goesOn G _ _) (fun _ hr => cX12_goesOnk hr) ⟨Nat.le_of_ble_eq_true rfl, Nat.le_of_ble_eq_true rfl⟩ ⟨Nat.le_refl _, Nat.le_refl _⟩ rfl (Nat.le_of_ble_eq_true rfl) (fun _ σ28 _ => ?_)
    refine hj_loc (lv' := [(0, .ref x0), (1, .int x1), (2, .int x2), (4, .int x4), (5, .int y0)]) [0, 1, 2, 3, 4] rfl ?_
    exact sX12_tellPile_b101 hK4 _ _ _ _ _ _
def fX12_tellPile_b89 (K4 : Nat → Int32 → Int32 → Sto → Option (Unit × Sto)) (x0 : Nat) (x1 : Int32) (x2 : Int32) (x4 : Int32) (σ : Sto) : Option (Unit × Sto) := (fX12_tellPile_b90 K4 x0 x1 x2 x4 ((0 : Int32)) σ)
set_option maxHeartbeats 2000000 in
theorem sX12_tellPile_b89 {G : GP} {n0 : Nat} {K4 : Nat → Int32 → Int32 → Sto → Option (Unit × Sto)} (hK4 : ∀ (x0 : Nat) (x1 : Int32) (x2 : Int32) (σ : Sto), Sim G mX12_tellPile 5 0 0 n0 jV 0 0 4 [(0, .ref x0), (1, .int x1), (2, .int x2)] [] σ (K4 x0 x1 x2 σ)) : ∀ (x0 : Nat) (x1 : Int32) (x2 : Int32) (x4 : Int32) (σ : Sto), Sim G mX12_tellPile 5 0 0 n0 jV 0 0 89 [(0, .ref x0), (1, .int x1), (2, .int x2), (4, .int x4)] [] σ (fX12_tellPile_b89 K4 x0 x1 x2 x4 σ) := by
  intro x0 x1 x2 x4 σ
  unfold fX12_tellPile_b89
  refine hj_iconst (0 : Int32) dX12_tellPile_89 (by decide) ?_
  refine hj_loc (lv' := [(0, .ref x0), (1, .int x1), (2, .int x2), (4, .int x4)]) [0, 1, 2, 3] rfl ?_
  exact sX12_tellPile_b90 hK4 _ _ _ _ _ _
def fX12_tellPile_b63 (K4 : Nat → Int32 → Int32 → Sto → Option (Unit × Sto)) (x0 : Nat) (x1 : Int32) (x2 : Int32) (x4 : Int32) (σ : Sto) : Option (Unit × Sto) := (cb (fX12_must x0 ((24 : Int32)) σ) fun _ σ30 => ((gI σ30 12 x0 13).bind fun t31 => (if t31 = 0 then (cb (fX12_is x0 ((9 : Int32)) σ30) fun r33 σ32 => (if r33 = 0 then (fX12_tellPile_b89 K4 x0 x1 x2 x4 σ32) else (fX12_tellPile_b90 K4 x0 x1 x2 x4 ((1 : Int32)) σ32))) else (fX12_tellPile_b89 K4 x0 x1 x2 x4 σ30))))
set_option maxHeartbeats 2000000 in
theorem sX12_tellPile_b63 {G : GP} {n0 : Nat} {K4 : Nat → Int32 → Int32 → Sto → Option (Unit × Sto)} (hK4 : ∀ (x0 : Nat) (x1 : Int32) (x2 : Int32) (σ : Sto), Sim G mX12_tellPile 5 0 0 n0 jV 0 0 4 [(0, .ref x0), (1, .int x1), (2, .int x2)] [] σ (K4 x0 x1 x2 σ)) : ∀ (x0 : Nat) (x1 : Int32) (x2 : Int32) (x4 : Int32) (σ : Sto), Sim G mX12_tellPile 5 0 0 n0 jV 0 0 63 [(0, .ref x0), (1, .int x1), (2, .int x2), (4, .int x4)] [] σ (fX12_tellPile_b63 K4 x0 x1 x2 x4 σ) := by
  intro x0 x1 x2 x4 σ
  unfold fX12_tellPile_b63
  refine hj_aload_n 0 dX12_tellPile_63 rfl ?_
  refine hj_bipush (24 : Int32) dX12_tellPile_64 (by decide) ?_
  refine hj_callV (ci := 12) (M' := mX12_must) (h' := 3) (As := [.int ((24 : Int32))]) mfX12_must mvX12_must ⟨_, _, rfl⟩ mlX12_263 dX12_tellPile_66 (kX12_must G _ _ _) (fun _ hr => cX12_mustk hr) ⟨Nat.le_of_ble_eq_true rfl, Nat.le_of_ble_eq_true rfl⟩ ⟨Nat.le_refl _, Nat.le_refl _⟩ rfl (Nat.le_of_ble_eq_true rfl) (fun _ σ30 _ => ?_)
  refine hj_aload_n 0 dX12_tellPile_69 rfl ?_
  refine hj_getI flX12_191 dX12_tellPile_70 (fun t31 _ => ?_)
  refine hj_if_ne 89 dX12_tellPile_73 (by decide) (fun _ => ?_) (fun _ => ?_)
  · refine hj_loc (lv' := [(0, .ref x0), (1, .int x1), (2, .int x2), (4, .int x4)]) [0, 1, 2, 3] rfl ?_
    exact sX12_tellPile_b89 hK4 _ _ _ _ _
  · refine hj_aload_n 0 dX12_tellPile_76 rfl ?_
    refine hj_bipush (9 : Int32) dX12_tellPile_77 (by decide) ?_
    refine hj_callV (ci := 12) (M' := mX12_is) (h' := 1) (As := [.int ((9 : Int32))]) mfX12_is mvX12_is ⟨_, _, rfl⟩ mlX12_209 dX12_tellPile_79 (kX12_is G _ _ _) (fun _ hr => cX12_isk hr) ⟨Nat.le_of_ble_eq_true rfl, Nat.le_of_ble_eq_true rfl⟩ ⟨Nat.le_refl _, Nat.le_refl _⟩ rfl (Nat.le_of_ble_eq_true rfl) (fun r33 σ32 _ => ?_)
    refine hj_if_eq 89 dX12_tellPile_82 (by decide) (fun _ => ?_) (fun _ => ?_)
    · refine hj_loc (lv' := [(0, .ref x0), (1, .int x1), (2, .int x2), (4, .int x4)]) [0, 1, 2, 3] rfl ?_
      exact sX12_tellPile_b89 hK4 _ _ _ _ _
    · refine hj_iconst (1 : Int32) dX12_tellPile_85 (by decide) ?_
      refine hj_goto 90 dX12_tellPile_86 (by decide) ?_
      refine hj_loc (lv' := [(0, .ref x0), (1, .int x1), (2, .int x2), (4, .int x4)]) [0, 1, 2, 3] rfl ?_
      exact sX12_tellPile_b90 hK4 _ _ _ _ _ _
def fX12_tellPile_b51 (K4 : Nat → Int32 → Int32 → Sto → Option (Unit × Sto)) (x0 : Nat) (x1 : Int32) (x2 : Int32) (x4 : Int32) (σ : Sto) : Option (Unit × Sto) := (if x4 < 0 then (fX12_tellPile_b63 K4 x0 x1 x2 x4 σ) else (lt ((x2 ||| ((((1 : Int32)) <<< (x4 &&& 31))))) fun v27 => (fX12_tellPile_b63 K4 x0 x1 v27 x4 σ)))
set_option maxHeartbeats 2000000 in
theorem sX12_tellPile_b51 {G : GP} {n0 : Nat} {K4 : Nat → Int32 → Int32 → Sto → Option (Unit × Sto)} (hK4 : ∀ (x0 : Nat) (x1 : Int32) (x2 : Int32) (σ : Sto), Sim G mX12_tellPile 5 0 0 n0 jV 0 0 4 [(0, .ref x0), (1, .int x1), (2, .int x2)] [] σ (K4 x0 x1 x2 σ)) : ∀ (x0 : Nat) (x1 : Int32) (x2 : Int32) (x4 : Int32) (σ : Sto), Sim G mX12_tellPile 5 0 0 n0 jV 0 0 51 [(0, .ref x0), (1, .int x1), (2, .int x2), (4, .int x4)] [] σ (fX12_tellPile_b51 K4 x0 x1 x2 x4 σ) := by
  intro x0 x1 x2 x4 σ
  unfold fX12_tellPile_b51
  refine hj_iload 3 dX12_tellPile_51 rfl ?_
  refine hj_if_lt 63 dX12_tellPile_53 (by decide) (fun _ => ?_) (fun _ => ?_)
  · refine hj_loc (lv' := [(0, .ref x0), (1, .int x1), (2, .int x2), (4, .int x4)]) [0, 1, 2, 3] rfl ?_
    exact sX12_tellPile_b63 hK4 _ _ _ _ _
  · refine hj_iload_n 2 dX12_tellPile_56 rfl ?_
    refine hj_iconst (1 : Int32) dX12_tellPile_57 (by decide) ?_
    refine hj_iload 3 dX12_tellPile_58 rfl ?_
    refine hj_ishl dX12_tellPile_60 ?_
    refine hj_ior dX12_tellPile_61 ?_
    refine hj_ltI (fun v27 _ => ?_)
    refine hj_istore_n (lv' := [(0, .ref x0), (1, .int x1), (2, .int v27), (4, .int x4)]) dX12_tellPile_62 (by decide) [1, 2, 0, 3] rfl ?_
    refine hj_loc (lv' := [(0, .ref x0), (1, .int x1), (2, .int v27), (4, .int x4)]) [0, 1, 2, 3] rfl ?_
    exact sX12_tellPile_b63 hK4 _ _ _ _ _
def fX12_tellPile_b4 : Nat → Nat → Int32 → Int32 → Sto → Option (Unit × Sto)
  | 0, _, _, _, _ => none
  | n + 1, x0, x1, x2, σ => ((gI σ 12 x0 13).bind fun t4 => (if t4 = 0 then (cb (fX12_is x0 ((1 : Int32)) σ) fun r6 σ5 => (if r6 = 0 then (fX12_tellPile_b228 x0 x1 σ5) else ((gI σ5 12 x0 11).bind fun t7 => (cb (fX12_known x0 σ5) fun r9 σ8 => (if r9 < 0 then (fX12_tellPile_b51 (fX12_tellPile_b4 n) x0 x1 x2 r9 σ8) else (if (((x2 >>> (r9 &&& 31))) &&& ((1 : Int32))) = (1 : Int32) then (cb (fX12_wrong x0 ((3 : Int32)) t7 σ8) fun _ σ10 => (fX12_tellPile_b51 (fX12_tellPile_b4 n) x0 x1 x2 r9 σ10)) else (fX12_tellPile_b51 (fX12_tellPile_b4 n) x0 x1 x2 r9 σ8))))))) else (fX12_tellPile_b228 x0 x1 σ)))
set_option maxHeartbeats 2000000 in
theorem sX12_tellPile_b4 {G : GP} {n0 : Nat} : ∀ (n : Nat) (x0 : Nat) (x1 : Int32) (x2 : Int32) (σ : Sto), Sim G mX12_tellPile 5 0 0 n0 jV 0 0 4 [(0, .ref x0), (1, .int x1), (2, .int x2)] [] σ (fX12_tellPile_b4 n x0 x1 x2 σ) := by
  intro n
  induction n with
  | zero => intros; rw [fX12_tellPile_b4]; exact hj_none
  | succ n ih =>
    intro x0 x1 x2 σ
    rw [fX12_tellPile_b4]
    refine hj_aload_n 0 dX12_tellPile_4 rfl ?_
    refine hj_getI flX12_191 dX12_tellPile_5 (fun t4 _ => ?_)
    refine hj_if_ne 228 dX12_tellPile_8 (by decide) (fun _ => ?_) (fun _ => ?_)
    · refine hj_loc (lv' := [(0, .ref x0), (1, .int x1)]) [0, 1] rfl ?_
      exact sX12_tellPile_b228 _ _ _
    · refine hj_aload_n 0 dX12_tellPile_11 rfl ?_
      refine hj_iconst (1 : Int32) dX12_tellPile_12 (by decide) ?_
      refine hj_callV (ci := 12) (M' := mX12_is) (h' := 1) (As := [.int ((1 : Int32))]) mfX12_is mvX12_is ⟨_, _, rfl⟩ mlX12_209 dX12_tellPile_13 (kX12_is G _ _ _) (fun _ hr => cX12_isk hr) ⟨Nat.le_of_ble_eq_true rfl, Nat.le_of_ble_eq_true rfl⟩ ⟨Nat.le_refl _, Nat.le_refl _⟩ rfl (Nat.le_of_ble_eq_true rfl) (fun r6 σ5 _ => ?_)
      refine hj_if_eq 228 dX12_tellPile_16 (by decide) (fun _ => ?_) (fun _ => ?_)
      · refine hj_loc (lv' := [(0, .ref x0), (1, .int x1)]) [0, 1] rfl ?_
        exact sX12_tellPile_b228 _ _ _
      · refine hj_aload_n 0 dX12_tellPile_19 rfl ?_
        refine hj_getI flX12_194 dX12_tellPile_20 (fun t7 _ => ?_)
        refine hj_istore_n (lv' := [(0, .ref x0), (1, .int x1), (2, .int x2), (3, .int t7)]) dX12_tellPile_23 (by decide) [1, 2, 3, 0] rfl ?_
        refine hj_aload_n 0 dX12_tellPile_24 rfl ?_
        refine hj_callV (ci := 12) (M' := mX12_known) (h' := 4) (As := []) mfX12_known mvX12_known ⟨_, _, rfl⟩ mlX12_252 dX12_tellPile_25 (kX12_known G _ _) (fun _ hr => cX12_knownk hr) ⟨Nat.le_of_ble_eq_true rfl, Nat.le_of_ble_eq_true rfl⟩ ⟨Nat.le_refl _, Nat.le_refl _⟩ rfl (Nat.le_of_ble_eq_true rfl) (fun r9 σ8 _ => ?_)
        refine hj_istore (lv' := [(0, .ref x0), (1, .int x1), (2, .int x2), (3, .int t7), (4, .int r9)]) dX12_tellPile_28 (by decide) [1, 2, 3, 4, 0] rfl ?_
        refine hj_iload 4 dX12_tellPile_30 rfl ?_
        refine hj_if_lt 51 dX12_tellPile_32 (by decide) (fun _ => ?_) (fun _ => ?_)
        · refine hj_loc (lv' := [(0, .ref x0), (1, .int x1), (2, .int x2), (4, .int r9)]) [0, 1, 2, 4] rfl ?_
          exact sX12_tellPile_b51 ih _ _ _ _ _
        · refine hj_iload_n 2 dX12_tellPile_35 rfl ?_
          refine hj_iload 4 dX12_tellPile_36 rfl ?_
          refine hj_ishr dX12_tellPile_38 ?_
          refine hj_iconst (1 : Int32) dX12_tellPile_39 (by decide) ?_
          refine hj_iand dX12_tellPile_40 ?_
          refine hj_iconst (1 : Int32) dX12_tellPile_41 (by decide) ?_
          refine hj_icmp_ne 51 dX12_tellPile_42 (by decide) (fun _ => ?_) (fun _ => ?_)
          · refine hj_loc (lv' := [(0, .ref x0), (1, .int x1), (2, .int x2), (4, .int r9)]) [0, 1, 2, 4] rfl ?_
            exact sX12_tellPile_b51 ih _ _ _ _ _
          · refine hj_aload_n 0 dX12_tellPile_45 rfl ?_
            refine hj_iconst (3 : Int32) dX12_tellPile_46 (by decide) ?_
            refine hj_iload_n 3 dX12_tellPile_47 rfl ?_
            refine hj_callV (ci := 12) (M' := mX12_wrong) (h' := 1) (As := [.int ((3 : Int32)), .int t7]) mfX12_wrong mvX12_wrong ⟨_, _, rfl⟩ mlX12_272 dX12_tellPile_48 (kX12_wrong G _ _ _ _) (fun _ hr => cX12_wrongk hr) ⟨Nat.le_of_ble_eq_true rfl, Nat.le_of_ble_eq_true rfl⟩ ⟨Nat.le_refl _, Nat.le_refl _⟩ rfl (Nat.le_of_ble_eq_true rfl) (fun _ σ10 _ => ?_)
            refine hj_loc (lv' := [(0, .ref x0), (1, .int x1), (2, .int x2), (4, .int r9)]) [0, 1, 2, 4] rfl ?_
            exact sX12_tellPile_b51 ih _ _ _ _ _
def fX12_tellPile (a0 : Nat) (σ : Sto) : Option (Unit × Sto) := ck σ 12 a0 (fX12_tellPile_b4 FU a0 ((0 : Int32)) ((0 : Int32)) σ)
set_option maxHeartbeats 2000000 in
theorem kX12_tellPile (G : GP) (a0 : Nat) (σ : Sto) : Me G mX12_tellPile 5 0 0 jV [.ref a0] σ (fX12_tellPile a0 σ) := by
  refine hs_me (lv := [(0, .ref a0)]) (plainFor_of_name (by decide +kernel)) (Nat.le_of_ble_eq_true rfl) rfl ?_
  unfold fX12_tellPile
  refine hj_ck ?_
  refine hj_iconst (0 : Int32) dX12_tellPile_0 (by decide) ?_
  refine hj_istore_n (lv' := [(0, .ref a0), (1, .int (0 : Int32))]) dX12_tellPile_1 (by decide) [1, 0] rfl ?_
  refine hj_iconst (0 : Int32) dX12_tellPile_2 (by decide) ?_
  refine hj_istore_n (lv' := [(0, .ref a0), (1, .int (0 : Int32)), (2, .int (0 : Int32))]) dX12_tellPile_3 (by decide) [1, 2, 0] rfl ?_
  refine hj_loc (lv' := [(0, .ref a0), (1, .int (0 : Int32)), (2, .int (0 : Int32))]) [0, 1, 2] rfl ?_
  exact sX12_tellPile_b4 _ _ _ _ _
theorem cX12_tellPilek {a0 : Nat} {σ : Sto} {r : Unit × Sto} (h : fX12_tellPile a0 σ = some r) : ∃ fs, hs_o σ 12 a0 = some fs := (ck_of h).1
def fX12_tell (a0 : Nat) (σ : Sto) : Option (Unit × Sto) := ck σ 12 a0 ((gR σ 12 a0 5).bind fun t1 => ((gI σ 12 a0 11).bind fun t2 => ((aI σ 2 t1 t2).bind fun t3 => (if t3 = (20 : Int32) then ((gR σ 12 a0 22).bind fun t26 => ((gI σ 12 a0 19).bind fun t27 => ((aI σ 2 t26 t27).bind fun t28 => (cb (fX12_roomFor a0 t28 ((6 : Int32)) σ) fun _ σ29 => ((gI σ29 12 a0 13).bind fun t30 => (if t30 = 0 then (cb (fX12_tellBook a0 σ29) fun _ σ31 => (some ((), σ31))) else (some ((), σ29)))))))) else (if t3 = (21 : Int32) then (cb (fX12_goesOn a0 σ) fun _ σ22 => (cb (fX12_known a0 σ22) fun r24 σ23 => (cb (fX12_tellLaw a0 r24 σ23) fun _ σ25 => (some ((), σ25))))) else (if t3 = (22 : Int32) then (cb (fX12_goesOn a0 σ) fun _ σ15 => ((gR σ15 12 a0 25).bind fun t16 => ((gI σ15 12 a0 19).bind fun t17 => (cb (fX12_bounded a0 ((1 : Int32)) ((999 : Int32)) σ15) fun r19 σ18 => ((sI σ18 2 t16 t17 r19).bind fun σ20 => (cb (fX12_must a0 ((4 : Int32)) σ20) fun _ σ21 => (some ((), σ21)))))))) else (if t3 = (23 : Int32) then (cb (fX12_goesOn a0 σ) fun _ σ13 => (cb (fX12_tellPile a0 σ13) fun _ σ14 => (some ((), σ14)))) else (if t3 = (24 : Int32) then (cb (fX12_fail a0 ((1 : Int32)) σ) fun _ σ12 => (some ((), σ12))) else (if t3 = (25 : Int32) then (cb (fX12_fail a0 ((1 : Int32)) σ) fun _ σ11 => (some ((), σ11))) else (if t3 = (26 : Int32) then ((gR σ 12 a0 26).bind fun t5 => ((gI σ 12 a0 19).bind fun t6 => ((aI σ 2 t5 t6).bind fun t7 => (cb (fX12_roomFor a0 t7 ((6 : Int32)) σ) fun _ σ8 => ((gI σ8 12 a0 13).bind fun t9 => (if t9 = 0 then (cb (fX12_tellFly a0 σ8) fun _ σ10 => (some ((), σ10))) else (some ((), σ8)))))))) else (cb (fX12_fail a0 ((1 : Int32)) σ) fun _ σ4 => (some ((), σ4)))))))))))))
set_option maxHeartbeats 2000000 in
theorem kX12_tell (G : GP) (a0 : Nat) (σ : Sto) : Me G mX12_tell 7 0 0 jV [.ref a0] σ (fX12_tell a0 σ) := by
  refine hs_me (lv := [(0, .ref a0)]) (plainFor_of_name (by decide +kernel)) (Nat.le_of_ble_eq_true rfl) rfl ?_
  unfold fX12_tell
  refine hj_ck ?_
  refine hj_aload_n 0 dX12_tell_0 rfl ?_
  refine hj_getR flX12_20 dX12_tell_1 (fun t1 _ => ?_)
  refine hj_aload_n 0 dX12_tell_4 rfl ?_
  refine hj_getI flX12_194 dX12_tell_5 (fun t2 _ => ?_)
  refine hj_iald dX12_tell_8 (fun t3 _ => ?_)
  refine hj_ite (fun n0 => ?_) (fun n0 => ?_)
  · refine hj_tin (20 : Int32) (43) 52 dX12_tell_9 n0 (by decide) (by decide) (by decide) (by decide) ?_
    refine hj_aload_n 0 dX12_tell_52 rfl ?_
    refine hj_aload_n 0 dX12_tell_53 rfl ?_
    refine hj_getR flX12_43 dX12_tell_54 (fun t26 _ => ?_)
    refine hj_aload_n 0 dX12_tell_57 rfl ?_
    refine hj_getI flX12_224 dX12_tell_58 (fun t27 _ => ?_)
    refine hj_iald dX12_tell_61 (fun t28 _ => ?_)
    refine hj_bipush (6 : Int32) dX12_tell_62 (by decide) ?_
    refine hj_callV (ci := 12) (M' := mX12_roomFor) (h' := 3) (As := [.int t28, .int ((6 : Int32))]) mfX12_roomFor mvX12_roomFor ⟨_, _, rfl⟩ mlX12_245 dX12_tell_64 (kX12_roomFor G _ _ _ _) (fun _ hr => cX12_roomFork hr) ⟨Nat.le_of_ble_eq_true rfl, Nat.le_of_ble_eq_true rfl⟩ ⟨Nat.le_refl _, Nat.le_refl _⟩ rfl (Nat.le_of_ble_eq_true rfl) (fun _ σ29 _ => ?_)
    refine hj_aload_n 0 dX12_tell_67 rfl ?_
    refine hj_getI flX12_191 dX12_tell_68 (fun t30 _ => ?_)
    refine hj_if_ne 170 dX12_tell_71 (by decide) (fun _ => ?_) (fun _ => ?_)
    · exact hj_vret dX12_tell_170 rfl rfl (Nat.le_refl _)
    · refine hj_aload_n 0 dX12_tell_74 rfl ?_
      refine hj_callV (ci := 12) (M' := mX12_tellBook) (h' := 4) (As := []) mfX12_tellBook mvX12_tellBook ⟨_, _, rfl⟩ mlX12_249 dX12_tell_75 (kX12_tellBook G _ _) (fun _ hr => cX12_tellBookk hr) ⟨Nat.le_of_ble_eq_true rfl, Nat.le_of_ble_eq_true rfl⟩ ⟨Nat.le_refl _, Nat.le_refl _⟩ rfl (Nat.le_of_ble_eq_true rfl) (fun _ σ31 _ => ?_)
      refine hj_goto 170 dX12_tell_78 (by decide) ?_
      exact hj_vret dX12_tell_170 rfl rfl (Nat.le_refl _)
  · refine hj_ite (fun n1 => ?_) (fun n1 => ?_)
    · refine hj_tin (21 : Int32) (72) 81 dX12_tell_9 n1 (by decide) (by decide) (by decide) (by decide) ?_
      refine hj_aload_n 0 dX12_tell_81 rfl ?_
      refine hj_callV (ci := 12) (M' := mX12_goesOn) (h' := 2) (As := []) mfX12_goesOn mvX12_goesOn ⟨_, _, rfl⟩ mlX12_212 dX12_tell_82 (kX12_goesOn G _ _) (fun _ hr => cX12_goesOnk hr) ⟨Nat.le_of_ble_eq_true rfl, Nat.le_of_ble_eq_true rfl⟩ ⟨Nat.le_refl _, Nat.le_refl _⟩ rfl (Nat.le_of_ble_eq_true rfl) (fun _ σ22 _ => ?_)
      refine hj_aload_n 0 dX12_tell_85 rfl ?_
      refine hj_aload_n 0 dX12_tell_86 rfl ?_
      refine hj_callV (ci := 12) (M' := mX12_known) (h' := 4) (As := []) mfX12_known mvX12_known ⟨_, _, rfl⟩ mlX12_252 dX12_tell_87 (kX12_known G _ _) (fun _ hr => cX12_knownk hr) ⟨Nat.le_of_ble_eq_true rfl, Nat.le_of_ble_eq_true rfl⟩ ⟨Nat.le_refl _, Nat.le_refl _⟩ rfl (Nat.le_of_ble_eq_true rfl) (fun r24 σ23 _ => ?_)
      refine hj_callV (ci := 12) (M' := mX12_tellLaw) (h' := 6) (As := [.int r24]) mfX12_tellLaw mvX12_tellLaw ⟨_, _, rfl⟩ mlX12_256 dX12_tell_90 (kX12_tellLaw G _ _ _) (fun _ hr => cX12_tellLawk hr) ⟨Nat.le_of_ble_eq_true rfl, Nat.le_of_ble_eq_true rfl⟩ ⟨Nat.le_refl _, Nat.le_refl _⟩ rfl (Nat.le_of_ble_eq_true rfl) (fun _ σ25 _ => ?_)
      refine hj_goto 170 dX12_tell_93 (by decide) ?_
      exact hj_vret dX12_tell_170 rfl rfl (Nat.le_refl _)
    · refine hj_ite (fun n2 => ?_) (fun n2 => ?_)
      · refine hj_tin (22 : Int32) (87) 96 dX12_tell_9 n2 (by decide) (by decide) (by decide) (by decide) ?_
        refine hj_aload_n 0 dX12_tell_96 rfl ?_
        refine hj_callV (ci := 12) (M' := mX12_goesOn) (h' := 2) (As := []) mfX12_goesOn mvX12_goesOn ⟨_, _, rfl⟩ mlX12_212 dX12_tell_97 (kX12_goesOn G _ _) (fun _ hr => cX12_goesOnk hr) ⟨Nat.le_of_ble_eq_true rfl, Nat.le_of_ble_eq_true rfl⟩ ⟨Nat.le_refl _, Nat.le_refl _⟩ rfl (Nat.le_of_ble_eq_true rfl) (fun _ σ15 _ => ?_)
        refine hj_aload_n 0 dX12_tell_100 rfl ?_
        refine hj_getR flX12_52 dX12_tell_101 (fun t16 _ => ?_)
        refine hj_aload_n 0 dX12_tell_104 rfl ?_
        refine hj_getI flX12_224 dX12_tell_105 (fun t17 _ => ?_)
        refine hj_aload_n 0 dX12_tell_108 rfl ?_
        refine hj_iconst (1 : Int32) dX12_tell_109 (by decide) ?_
        refine hj_sipush (999 : Int32) dX12_tell_110 (by decide) ?_
        refine hj_callV (ci := 12) (M' := mX12_bounded) (h' := 3) (As := [.int ((1 : Int32)), .int ((999 : Int32))]) mfX12_bounded mvX12_bounded ⟨_, _, rfl⟩ mlX12_259 dX12_tell_113 (kX12_bounded G _ _ _ _) (fun _ hr => cX12_boundedk hr) ⟨Nat.le_of_ble_eq_true rfl, Nat.le_of_ble_eq_true rfl⟩ ⟨Nat.le_refl _, Nat.le_refl _⟩ rfl (Nat.le_of_ble_eq_true rfl) (fun r19 σ18 _ => ?_)
        refine hj_iast dX12_tell_116 (fun σ20 _ => ?_)
        refine hj_aload_n 0 dX12_tell_117 rfl ?_
        refine hj_iconst (4 : Int32) dX12_tell_118 (by decide) ?_
        refine hj_callV (ci := 12) (M' := mX12_must) (h' := 3) (As := [.int ((4 : Int32))]) mfX12_must mvX12_must ⟨_, _, rfl⟩ mlX12_263 dX12_tell_119 (kX12_must G _ _ _) (fun _ hr => cX12_mustk hr) ⟨Nat.le_of_ble_eq_true rfl, Nat.le_of_ble_eq_true rfl⟩ ⟨Nat.le_refl _, Nat.le_refl _⟩ rfl (Nat.le_of_ble_eq_true rfl) (fun _ σ21 _ => ?_)
        refine hj_goto 170 dX12_tell_122 (by decide) ?_
        exact hj_vret dX12_tell_170 rfl rfl (Nat.le_refl _)
      · refine hj_ite (fun n3 => ?_) (fun n3 => ?_)
        · refine hj_tin (23 : Int32) (116) 125 dX12_tell_9 n3 (by decide) (by decide) (by decide) (by decide) ?_
          refine hj_aload_n 0 dX12_tell_125 rfl ?_
          refine hj_callV (ci := 12) (M' := mX12_goesOn) (h' := 2) (As := []) mfX12_goesOn mvX12_goesOn ⟨_, _, rfl⟩ mlX12_212 dX12_tell_126 (kX12_goesOn G _ _) (fun _ hr => cX12_goesOnk hr) ⟨Nat.le_of_ble_eq_true rfl, Nat.le_of_ble_eq_true rfl⟩ ⟨Nat.le_refl _, Nat.le_refl _⟩ rfl (Nat.le_of_ble_eq_true rfl) (fun _ σ13 _ => ?_)
          refine hj_aload_n 0 dX12_tell_129 rfl ?_
          refine hj_callV (ci := 12) (M' := mX12_tellPile) (h' := 5) (As := []) mfX12_tellPile mvX12_tellPile ⟨_, _, rfl⟩ mlX12_266 dX12_tell_130 (kX12_tellPile G _ _) (fun _ hr => cX12_tellPilek hr) ⟨Nat.le_of_ble_eq_true rfl, Nat.le_of_ble_eq_true rfl⟩ ⟨Nat.le_refl _, Nat.le_refl _⟩ rfl (Nat.le_of_ble_eq_true rfl) (fun _ σ14 _ => ?_)
          refine hj_goto 170 dX12_tell_133 (by decide) ?_
          exact hj_vret dX12_tell_170 rfl rfl (Nat.le_refl _)
        · refine hj_ite (fun n4 => ?_) (fun n4 => ?_)
          · refine hj_tin (24 : Int32) (156) 165 dX12_tell_9 n4 (by decide) (by decide) (by decide) (by decide) ?_
            refine hj_aload_n 0 dX12_tell_165 rfl ?_
            refine hj_iconst (1 : Int32) dX12_tell_166 (by decide) ?_
            refine hj_callV (ci := 12) (M' := mX12_fail) (h' := 1) (As := [.int ((1 : Int32))]) mfX12_fail mvX12_fail ⟨_, _, rfl⟩ mlX12_206 dX12_tell_167 (kX12_fail G _ _ _) (fun _ hr => cX12_failk hr) ⟨Nat.le_of_ble_eq_true rfl, Nat.le_of_ble_eq_true rfl⟩ ⟨Nat.le_refl _, Nat.le_refl _⟩ rfl (Nat.le_of_ble_eq_true rfl) (fun _ σ12 _ => ?_)
            exact hj_vret dX12_tell_170 rfl rfl (Nat.le_refl _)
          · refine hj_ite (fun n5 => ?_) (fun n5 => ?_)
            · refine hj_tin (25 : Int32) (156) 165 dX12_tell_9 n5 (by decide) (by decide) (by decide) (by decide) ?_
              refine hj_aload_n 0 dX12_tell_165 rfl ?_
              refine hj_iconst (1 : Int32) dX12_tell_166 (by decide) ?_
              refine hj_callV (ci := 12) (M' := mX12_fail) (h' := 1) (As := [.int ((1 : Int32))]) mfX12_fail mvX12_fail ⟨_, _, rfl⟩ mlX12_206 dX12_tell_167 (kX12_fail G _ _ _) (fun _ hr => cX12_failk hr) ⟨Nat.le_of_ble_eq_true rfl, Nat.le_of_ble_eq_true rfl⟩ ⟨Nat.le_refl _, Nat.le_refl _⟩ rfl (Nat.le_of_ble_eq_true rfl) (fun _ σ11 _ => ?_)
              exact hj_vret dX12_tell_170 rfl rfl (Nat.le_refl _)
            · refine hj_ite (fun n6 => ?_) (fun n6 => ?_)
              · refine hj_tin (26 : Int32) (127) 136 dX12_tell_9 n6 (by decide) (by decide) (by decide) (by decide) ?_
                refine hj_aload_n 0 dX12_tell_136 rfl ?_
                refine hj_aload_n 0 dX12_tell_137 rfl ?_
                refine hj_getR flX12_55 dX12_tell_138 (fun t5 _ => ?_)
                refine hj_aload_n 0 dX12_tell_141 rfl ?_
                refine hj_getI flX12_224 dX12_tell_142 (fun t6 _ => ?_)
                refine hj_iald dX12_tell_145 (fun t7 _ => ?_)
                refine hj_bipush (6 : Int32) dX12_tell_146 (by decide) ?_
                refine hj_callV (ci := 12) (M' := mX12_roomFor) (h' := 3) (As := [.int t7, .int ((6 : Int32))]) mfX12_roomFor mvX12_roomFor ⟨_, _, rfl⟩ mlX12_245 dX12_tell_148 (kX12_roomFor G _ _ _ _) (fun _ hr => cX12_roomFork hr) ⟨Nat.le_of_ble_eq_true rfl, Nat.le_of_ble_eq_true rfl⟩ ⟨Nat.le_refl _, Nat.le_refl _⟩ rfl (Nat.le_of_ble_eq_true rfl) (fun _ σ8 _ => ?_)
                refine hj_aload_n 0 dX12_tell_151 rfl ?_
                refine hj_getI flX12_191 dX12_tell_152 (fun t9 _ => ?_)
                refine hj_if_ne 170 dX12_tell_155 (by decide) (fun _ => ?_) (fun _ => ?_)
                · exact hj_vret dX12_tell_170 rfl rfl (Nat.le_refl _)
                · refine hj_aload_n 0 dX12_tell_158 rfl ?_
                  refine hj_callV (ci := 12) (M' := mX12_tellFly) (h' := 5) (As := []) mfX12_tellFly mvX12_tellFly ⟨_, _, rfl⟩ mlX12_269 dX12_tell_159 (kX12_tellFly G _ _) (fun _ hr => cX12_tellFlyk hr) ⟨Nat.le_of_ble_eq_true rfl, Nat.le_of_ble_eq_true rfl⟩ ⟨Nat.le_refl _, Nat.le_refl _⟩ rfl (Nat.le_of_ble_eq_true rfl) (fun _ σ10 _ => ?_)
                  refine hj_goto 170 dX12_tell_162 (by decide) ?_
                  exact hj_vret dX12_tell_170 rfl rfl (Nat.le_refl _)
              · refine hj_tout 165 dX12_tell_9 (by have := lv_neT (a := 20) n0 (by decide); have := lv_neT (a := 21) n1 (by decide); have := lv_neT (a := 22) n2 (by decide); have := lv_neT (a := 23) n3 (by decide); have := lv_neT (a := 24) n4 (by decide); have := lv_neT (a := 25) n5 (by decide); have := lv_neT (a := 26) n6 (by decide); omega) (by decide) ?_
                refine hj_aload_n 0 dX12_tell_165 rfl ?_
                refine hj_iconst (1 : Int32) dX12_tell_166 (by decide) ?_
                refine hj_callV (ci := 12) (M' := mX12_fail) (h' := 1) (As := [.int ((1 : Int32))]) mfX12_fail mvX12_fail ⟨_, _, rfl⟩ mlX12_206 dX12_tell_167 (kX12_fail G _ _ _) (fun _ hr => cX12_failk hr) ⟨Nat.le_of_ble_eq_true rfl, Nat.le_of_ble_eq_true rfl⟩ ⟨Nat.le_refl _, Nat.le_refl _⟩ rfl (Nat.le_of_ble_eq_true rfl) (fun _ σ4 _ => ?_)
                exact hj_vret dX12_tell_170 rfl rfl (Nat.le_refl _)
theorem cX12_tellk {a0 : Nat} {σ : Sto} {r : Unit × Sto} (h : fX12_tell a0 σ = some r) : ∃ fs, hs_o σ 12 a0 = some fs := (ck_of h).1
def fX12_read_b341 : Nat → Nat → Int32 → Sto → Option (Int32 × Sto)
  | 0, _, _, _ => none
  | n + 1, x0, x1, σ => (if (3 : Int32) ≤ x1 then (some ((0 : Int32), σ)) else ((gR σ 12 x0 67).bind fun t59 => ((sI σ 4 t59 x1 ((0 : Int32))).bind fun σ60 => (fX12_read_b341 n x0 (x1 + (1 : Int32)) σ60))))
set_option maxHeartbeats 2000000 in
theorem sX12_read_b341 {G : GP} {n0 : Nat} : ∀ (n : Nat) (x0 : Nat) (x1 : Int32) (σ : Sto), Sim G mX12_read 8 0 0 n0 jI 0 0 341 [(0, .ref x0), (1, .int x1)] [] σ (fX12_read_b341 n x0 x1 σ) := by
  intro n
  induction n with
  | zero => intros; rw [fX12_read_b341]; exact hj_none
  | succ n ih =>
    intro x0 x1 σ
    rw [fX12_read_b341]
    refine hj_iload_n 1 dX12_read_341 rfl ?_
    refine hj_iconst (3 : Int32) dX12_read_342 (by decide) ?_
    refine hj_icmp_ge 359 dX12_read_343 (by decide) (fun _ => ?_) (fun _ => ?_)
    · refine hj_iconst (0 : Int32) dX12_read_359 (by decide) ?_
      exact hj_iret dX12_read_360 rfl rfl (Nat.le_refl _)
    · refine hj_aload_n 0 dX12_read_346 rfl ?_
      refine hj_getR flX12_143 dX12_read_347 (fun t59 _ => ?_)
      refine hj_iload_n 1 dX12_read_350 rfl ?_
      refine hj_iconst (0 : Int32) dX12_read_351 (by decide) ?_
      refine hj_zast dX12_read_352 (fun σ60 _ => ?_)
      refine hj_iinc (lv' := [(0, .ref x0), (1, .int (x1 + (1 : Int32)))]) 1 (1 : Int32) dX12_read_353 rfl (by decide) (by decide) [1, 0] rfl ?_
      refine hj_goto 341 dX12_read_356 (by decide) ?_
      refine hj_loc (lv' := [(0, .ref x0), (1, .int (x1 + (1 : Int32)))]) [0, 1] rfl ?_
      exact ih _ _ _
def fX12_read_b329 (x0 : Nat) (σ : Sto) : Option (Int32 × Sto) := ((pV σ 12 x0 55 (.int ((0 : Int32)))).bind fun σ53 => ((pV σ53 12 x0 62 (.int ((0 : Int32)))).bind fun σ54 => (fX12_read_b341 FU x0 ((0 : Int32)) σ54)))
set_option maxHeartbeats 2000000 in
theorem sX12_read_b329 {G : GP} {n0 : Nat} : ∀ (x0 : Nat) (σ : Sto), Sim G mX12_read 8 0 0 n0 jI 0 0 329 [(0, .ref x0)] [] σ (fX12_read_b329 x0 σ) := by
  intro x0 σ
  unfold fX12_read_b329
  refine hj_aload_n 0 dX12_read_329 rfl ?_
  refine hj_iconst (0 : Int32) dX12_read_330 (by decide) ?_
  refine hj_put (fpX12_239 _) (fun _ => rfl) (fun _ => rfl) dX12_read_331 (fun σ53 _ => ?_)
  refine hj_aload_n 0 dX12_read_334 rfl ?_
  refine hj_iconst (0 : Int32) dX12_read_335 (by decide) ?_
  refine hj_put (fpX12_242 _) (fun _ => rfl) (fun _ => rfl) dX12_read_336 (fun σ54 _ => ?_)
  refine hj_iconst (0 : Int32) dX12_read_339 (by decide) ?_
  refine hj_istore_n (lv' := [(0, .ref x0), (1, .int (0 : Int32))]) dX12_read_340 (by decide) [1, 0] rfl ?_
  refine hj_loc (lv' := [(0, .ref x0), (1, .int (0 : Int32))]) [0, 1] rfl ?_
  exact sX12_read_b341 _ _ _ _
def fX12_read_b297 : Nat → Nat → Int32 → Sto → Option (Int32 × Sto)
  | 0, _, _, _ => none
  | n + 1, x0, x1, σ => (if (20 : Int32) ≤ x1 then (fX12_read_b329 x0 σ) else ((gR σ 12 x0 47).bind fun t48 => ((gR σ 12 x0 30).bind fun t49 => ((gI σ 12 x0 18).bind fun t50 => ((aI σ 2 t49 ((((((20 : Int32)) * t50)) + x1))).bind fun t51 => ((sI σ 2 t48 x1 t51).bind fun σ52 => (fX12_read_b297 n x0 (x1 + (1 : Int32)) σ52)))))))
set_option maxHeartbeats 2000000 in
theorem sX12_read_b297 {G : GP} {n0 : Nat} : ∀ (n : Nat) (x0 : Nat) (x1 : Int32) (σ : Sto), Sim G mX12_read 8 0 0 n0 jI 0 0 297 [(0, .ref x0), (1, .int x1)] [] σ (fX12_read_b297 n x0 x1 σ) := by
  intro n
  induction n with
  | zero => intros; rw [fX12_read_b297]; exact hj_none
  | succ n ih =>
    intro x0 x1 σ
    rw [fX12_read_b297]
    refine hj_iload_n 1 dX12_read_297 rfl ?_
    refine hj_bipush (20 : Int32) dX12_read_298 (by decide) ?_
    refine hj_icmp_ge 329 dX12_read_300 (by decide) (fun _ => ?_) (fun _ => ?_)
    · refine hj_loc (lv' := [(0, .ref x0)]) [0] rfl ?_
      exact sX12_read_b329 _ _
    · refine hj_aload_n 0 dX12_read_303 rfl ?_
      refine hj_getR flX12_107 dX12_read_304 (fun t48 _ => ?_)
      refine hj_iload_n 1 dX12_read_307 rfl ?_
      refine hj_aload_n 0 dX12_read_308 rfl ?_
      refine hj_getR flX12_67 dX12_read_309 (fun t49 _ => ?_)
      refine hj_bipush (20 : Int32) dX12_read_312 (by decide) ?_
      refine hj_aload_n 0 dX12_read_314 rfl ?_
      refine hj_getI flX12_221 dX12_read_315 (fun t50 _ => ?_)
      refine hj_imul dX12_read_318 ?_
      refine hj_iload_n 1 dX12_read_319 rfl ?_
      refine hj_iadd dX12_read_320 ?_
      refine hj_iald dX12_read_321 (fun t51 _ => ?_)
      refine hj_iast dX12_read_322 (fun σ52 _ => ?_)
      refine hj_iinc (lv' := [(0, .ref x0), (1, .int (x1 + (1 : Int32)))]) 1 (1 : Int32) dX12_read_323 rfl (by decide) (by decide) [1, 0] rfl ?_
      refine hj_goto 297 dX12_read_326 (by decide) ?_
      refine hj_loc (lv' := [(0, .ref x0), (1, .int (x1 + (1 : Int32)))]) [0, 1] rfl ?_
      exact ih _ _ _
def fX12_read_b260 (x0 : Nat) (y0 : Nat) (y1 : Int32) (σ : Sto) : Option (Int32 × Sto) := ((pV σ 12 y0 17 (.int y1)).bind fun σ1 => ((gI σ1 12 x0 13).bind fun t2 => (if t2 ≤ 0 then ((gI σ1 12 x0 15).bind fun t3 => (if t3 ≤ 0 then ((gI σ1 12 x0 19).bind fun t4 => ((pV σ1 12 x0 18 (.int t4)).bind fun σ5 => (fX12_read_b297 FU x0 ((0 : Int32)) σ5))) else ((gI σ1 12 x0 15).bind fun t6 => (some (t6, σ1))))) else ((gI σ1 12 x0 13).bind fun t7 => (some (t7, σ1))))))
set_option maxHeartbeats 2000000 in
theorem sX12_read_b260 {G : GP} {n0 : Nat} : ∀ (x0 : Nat) (y0 : Nat) (y1 : Int32) (σ : Sto), Sim G mX12_read 8 0 0 n0 jI 0 0 260 [(0, .ref x0)] [.int y1, .ref y0] σ (fX12_read_b260 x0 y0 y1 σ) := by
  intro x0 y0 y1 σ
  unfold fX12_read_b260
  refine hj_put (fpX12_37 _) (fun _ => rfl) (fun _ => rfl) dX12_read_260 (fun σ1 _ => ?_)
  refine hj_aload_n 0 dX12_read_263 rfl ?_
  refine hj_getI flX12_191 dX12_read_264 (fun t2 _ => ?_)
  refine hj_if_le 275 dX12_read_267 (by decide) (fun _ => ?_) (fun _ => ?_)
  · refine hj_aload_n 0 dX12_read_275 rfl ?_
    refine hj_getI flX12_200 dX12_read_276 (fun t3 _ => ?_)
    refine hj_if_le 287 dX12_read_279 (by decide) (fun _ => ?_) (fun _ => ?_)
    · refine hj_aload_n 0 dX12_read_287 rfl ?_
      refine hj_aload_n 0 dX12_read_288 rfl ?_
      refine hj_getI flX12_224 dX12_read_289 (fun t4 _ => ?_)
      refine hj_put (fpX12_221 _) (fun _ => rfl) (fun _ => rfl) dX12_read_292 (fun σ5 _ => ?_)
      refine hj_iconst (0 : Int32) dX12_read_295 (by decide) ?_
      refine hj_istore_n (lv' := [(0, .ref x0), (1, .int (0 : Int32))]) dX12_read_296 (by decide) [1, 0] rfl ?_
      refine hj_loc (lv' := [(0, .ref x0), (1, .int (0 : Int32))]) [0, 1] rfl ?_
      exact sX12_read_b297 _ _ _ _
    · refine hj_aload_n 0 dX12_read_282 rfl ?_
      refine hj_getI flX12_200 dX12_read_283 (fun t6 _ => ?_)
      exact hj_iret dX12_read_286 rfl rfl (Nat.le_refl _)
  · refine hj_aload_n 0 dX12_read_270 rfl ?_
    refine hj_getI flX12_191 dX12_read_271 (fun t7 _ => ?_)
    exact hj_iret dX12_read_274 rfl rfl (Nat.le_refl _)
def fX12_read_b230 (x0 : Nat) (σ : Sto) : Option (Int32 × Sto) := ((gI σ 12 x0 13).bind fun t36 => (if t36 ≤ 0 then ((gI σ 12 x0 15).bind fun t37 => (if t37 ≤ 0 then (fX12_read_b260 x0 x0 ((-1 : Int32)) σ) else ((gI σ 12 x0 16).bind fun t38 => (fX12_read_b260 x0 x0 t38 σ)))) else ((gI σ 12 x0 14).bind fun t39 => (fX12_read_b260 x0 x0 t39 σ))))
set_option maxHeartbeats 2000000 in
theorem sX12_read_b230 {G : GP} {n0 : Nat} : ∀ (x0 : Nat) (σ : Sto), Sim G mX12_read 8 0 0 n0 jI 0 0 230 [(0, .ref x0)] [] σ (fX12_read_b230 x0 σ) := by
  intro x0 σ
  unfold fX12_read_b230
  refine hj_aload_n 0 dX12_read_230 rfl ?_
  refine hj_aload_n 0 dX12_read_231 rfl ?_
  refine hj_getI flX12_191 dX12_read_232 (fun t36 _ => ?_)
  refine hj_if_le 245 dX12_read_235 (by decide) (fun _ => ?_) (fun _ => ?_)
  · refine hj_aload_n 0 dX12_read_245 rfl ?_
    refine hj_getI flX12_200 dX12_read_246 (fun t37 _ => ?_)
    refine hj_if_le 259 dX12_read_249 (by decide) (fun _ => ?_) (fun _ => ?_)
    · refine hj_iconst (-1 : Int32) dX12_read_259 (by decide) ?_
      refine hj_loc (lv' := [(0, .ref x0)]) [0] rfl ?_
      exact sX12_read_b260 _ _ _ _
    · refine hj_aload_n 0 dX12_read_252 rfl ?_
      refine hj_getI flX12_203 dX12_read_253 (fun t38 _ => ?_)
      refine hj_goto 260 dX12_read_256 (by decide) ?_
      refine hj_loc (lv' := [(0, .ref x0)]) [0] rfl ?_
      exact sX12_read_b260 _ _ _ _
  · refine hj_aload_n 0 dX12_read_238 rfl ?_
    refine hj_getI flX12_197 dX12_read_239 (fun t39 _ => ?_)
    refine hj_goto 260 dX12_read_242 (by decide) ?_
    refine hj_loc (lv' := [(0, .ref x0)]) [0] rfl ?_
    exact sX12_read_b260 _ _ _ _
def fX12_read_b208 : Nat → Nat → Sto → Option (Int32 × Sto)
  | 0, _, _ => none
  | n + 1, x0, σ => ((gI σ 12 x0 13).bind fun t55 => (if t55 = 0 then (cb (fX12_is x0 ((0 : Int32)) σ) fun r57 σ56 => (if r57 = 0 then (cb (fX12_tell x0 σ56) fun _ σ58 => (fX12_read_b208 n x0 σ58)) else (fX12_read_b230 x0 σ56))) else (fX12_read_b230 x0 σ)))
set_option maxHeartbeats 2000000 in
theorem sX12_read_b208 {G : GP} {n0 : Nat} : ∀ (n : Nat) (x0 : Nat) (σ : Sto), Sim G mX12_read 8 0 0 n0 jI 0 0 208 [(0, .ref x0)] [] σ (fX12_read_b208 n x0 σ) := by
  intro n
  induction n with
  | zero => intros; rw [fX12_read_b208]; exact hj_none
  | succ n ih =>
    intro x0 σ
    rw [fX12_read_b208]
    refine hj_aload_n 0 dX12_read_208 rfl ?_
    refine hj_getI flX12_191 dX12_read_209 (fun t55 _ => ?_)
    refine hj_if_ne 230 dX12_read_212 (by decide) (fun _ => ?_) (fun _ => ?_)
    · refine hj_loc (lv' := [(0, .ref x0)]) [0] rfl ?_
      exact sX12_read_b230 _ _
    · refine hj_aload_n 0 dX12_read_215 rfl ?_
      refine hj_iconst (0 : Int32) dX12_read_216 (by decide) ?_
      refine hj_callV (ci := 12) (M' := mX12_is) (h' := 1) (As := [.int ((0 : Int32))]) mfX12_is mvX12_is ⟨_, _, rfl⟩ mlX12_209 dX12_read_217 (kX12_is G _ _ _) (fun _ hr => cX12_isk hr) ⟨Nat.le_of_ble_eq_true rfl, Nat.le_of_ble_eq_true rfl⟩ ⟨Nat.le_refl _, Nat.le_refl _⟩ rfl (Nat.le_of_ble_eq_true rfl) (fun r57 σ56 _ => ?_)
      refine hj_if_ne 230 dX12_read_220 (by decide) (fun _ => ?_) (fun _ => ?_)
      · refine hj_loc (lv' := [(0, .ref x0)]) [0] rfl ?_
        exact sX12_read_b230 _ _
      · refine hj_aload_n 0 dX12_read_223 rfl ?_
        refine hj_callV (ci := 12) (M' := mX12_tell) (h' := 7) (As := []) mfX12_tell mvX12_tell ⟨_, _, rfl⟩ mlX12_236 dX12_read_224 (kX12_tell G _ _) (fun _ hr => cX12_tellk hr) ⟨Nat.le_of_ble_eq_true rfl, Nat.le_of_ble_eq_true rfl⟩ ⟨Nat.le_refl _, Nat.le_refl _⟩ rfl (Nat.le_of_ble_eq_true rfl) (fun _ σ58 _ => ?_)
        refine hj_goto 208 dX12_read_227 (by decide) ?_
        refine hj_loc (lv' := [(0, .ref x0)]) [0] rfl ?_
        exact ih _ _
def fX12_read_b166 : Nat → Nat → Int32 → Sto → Option (Int32 × Sto)
  | 0, _, _, _ => none
  | n + 1, x0, x1, σ => (if (6 : Int32) ≤ x1 then (fX12_read_b208 FU x0 σ) else ((gR σ 12 x0 31).bind fun t30 => ((gI σ 12 x0 19).bind fun t31 => ((sI σ 2 t30 ((((((6 : Int32)) * t31)) + x1)) ((0 : Int32))).bind fun σ32 => ((gR σ32 12 x0 32).bind fun t33 => ((gI σ32 12 x0 19).bind fun t34 => ((sI σ32 2 t33 ((((((6 : Int32)) * t34)) + x1)) ((0 : Int32))).bind fun σ35 => (fX12_read_b166 n x0 (x1 + (1 : Int32)) σ35))))))))
set_option maxHeartbeats 2000000 in
theorem sX12_read_b166 {G : GP} {n0 : Nat} : ∀ (n : Nat) (x0 : Nat) (x1 : Int32) (σ : Sto), Sim G mX12_read 8 0 0 n0 jI 0 0 166 [(0, .ref x0), (1, .int x1)] [] σ (fX12_read_b166 n x0 x1 σ) := by
  intro n
  induction n with
  | zero => intros; rw [fX12_read_b166]; exact hj_none
  | succ n ih =>
    intro x0 x1 σ
    rw [fX12_read_b166]
    refine hj_iload_n 1 dX12_read_166 rfl ?_
    refine hj_bipush (6 : Int32) dX12_read_167 (by decide) ?_
    refine hj_icmp_ge 208 dX12_read_169 (by decide) (fun _ => ?_) (fun _ => ?_)
    · refine hj_loc (lv' := [(0, .ref x0)]) [0] rfl ?_
      exact sX12_read_b208 _ _ _
    · refine hj_aload_n 0 dX12_read_172 rfl ?_
      refine hj_getR flX12_70 dX12_read_173 (fun t30 _ => ?_)
      refine hj_bipush (6 : Int32) dX12_read_176 (by decide) ?_
      refine hj_aload_n 0 dX12_read_178 rfl ?_
      refine hj_getI flX12_224 dX12_read_179 (fun t31 _ => ?_)
      refine hj_imul dX12_read_182 ?_
      refine hj_iload_n 1 dX12_read_183 rfl ?_
      refine hj_iadd dX12_read_184 ?_
      refine hj_iconst (0 : Int32) dX12_read_185 (by decide) ?_
      refine hj_iast dX12_read_186 (fun σ32 _ => ?_)
      refine hj_aload_n 0 dX12_read_187 rfl ?_
      refine hj_getR flX12_73 dX12_read_188 (fun t33 _ => ?_)
      refine hj_bipush (6 : Int32) dX12_read_191 (by decide) ?_
      refine hj_aload_n 0 dX12_read_193 rfl ?_
      refine hj_getI flX12_224 dX12_read_194 (fun t34 _ => ?_)
      refine hj_imul dX12_read_197 ?_
      refine hj_iload_n 1 dX12_read_198 rfl ?_
      refine hj_iadd dX12_read_199 ?_
      refine hj_iconst (0 : Int32) dX12_read_200 (by decide) ?_
      refine hj_iast dX12_read_201 (fun σ35 _ => ?_)
      refine hj_iinc (lv' := [(0, .ref x0), (1, .int (x1 + (1 : Int32)))]) 1 (1 : Int32) dX12_read_202 rfl (by decide) (by decide) [1, 0] rfl ?_
      refine hj_goto 166 dX12_read_205 (by decide) ?_
      refine hj_loc (lv' := [(0, .ref x0), (1, .int (x1 + (1 : Int32)))]) [0, 1] rfl ?_
      exact ih _ _ _
def fX12_read_b164 (x0 : Nat) (σ : Sto) : Option (Int32 × Sto) := (fX12_read_b166 FU x0 ((0 : Int32)) σ)
set_option maxHeartbeats 2000000 in
theorem sX12_read_b164 {G : GP} {n0 : Nat} : ∀ (x0 : Nat) (σ : Sto), Sim G mX12_read 8 0 0 n0 jI 0 0 164 [(0, .ref x0)] [] σ (fX12_read_b164 x0 σ) := by
  intro x0 σ
  unfold fX12_read_b164
  refine hj_iconst (0 : Int32) dX12_read_164 (by decide) ?_
  refine hj_istore_n (lv' := [(0, .ref x0), (1, .int (0 : Int32))]) dX12_read_165 (by decide) [1, 0] rfl ?_
  refine hj_loc (lv' := [(0, .ref x0), (1, .int (0 : Int32))]) [0, 1] rfl ?_
  exact sX12_read_b166 _ _ _ _
def fX12_read_b137 : Nat → Nat → Int32 → Sto → Option (Int32 × Sto)
  | 0, _, _, _ => none
  | n + 1, x0, x1, σ => (if (20 : Int32) ≤ x1 then (fX12_read_b164 x0 σ) else ((gR σ 12 x0 30).bind fun t40 => ((gI σ 12 x0 19).bind fun t41 => ((sI σ 2 t40 ((((((20 : Int32)) * t41)) + x1)) ((0 : Int32))).bind fun σ42 => (fX12_read_b137 n x0 (x1 + (1 : Int32)) σ42)))))
set_option maxHeartbeats 2000000 in
theorem sX12_read_b137 {G : GP} {n0 : Nat} : ∀ (n : Nat) (x0 : Nat) (x1 : Int32) (σ : Sto), Sim G mX12_read 8 0 0 n0 jI 0 0 137 [(0, .ref x0), (1, .int x1)] [] σ (fX12_read_b137 n x0 x1 σ) := by
  intro n
  induction n with
  | zero => intros; rw [fX12_read_b137]; exact hj_none
  | succ n ih =>
    intro x0 x1 σ
    rw [fX12_read_b137]
    refine hj_iload_n 1 dX12_read_137 rfl ?_
    refine hj_bipush (20 : Int32) dX12_read_138 (by decide) ?_
    refine hj_icmp_ge 164 dX12_read_140 (by decide) (fun _ => ?_) (fun _ => ?_)
    · refine hj_loc (lv' := [(0, .ref x0)]) [0] rfl ?_
      exact sX12_read_b164 _ _
    · refine hj_aload_n 0 dX12_read_143 rfl ?_
      refine hj_getR flX12_67 dX12_read_144 (fun t40 _ => ?_)
      refine hj_bipush (20 : Int32) dX12_read_147 (by decide) ?_
      refine hj_aload_n 0 dX12_read_149 rfl ?_
      refine hj_getI flX12_224 dX12_read_150 (fun t41 _ => ?_)
      refine hj_imul dX12_read_153 ?_
      refine hj_iload_n 1 dX12_read_154 rfl ?_
      refine hj_iadd dX12_read_155 ?_
      refine hj_iconst (0 : Int32) dX12_read_156 (by decide) ?_
      refine hj_iast dX12_read_157 (fun σ42 _ => ?_)
      refine hj_iinc (lv' := [(0, .ref x0), (1, .int (x1 + (1 : Int32)))]) 1 (1 : Int32) dX12_read_158 rfl (by decide) (by decide) [1, 0] rfl ?_
      refine hj_goto 137 dX12_read_161 (by decide) ?_
      refine hj_loc (lv' := [(0, .ref x0), (1, .int (x1 + (1 : Int32)))]) [0, 1] rfl ?_
      exact ih _ _ _
def fX12_read_b36 (x0 : Nat) (σ : Sto) : Option (Int32 × Sto) := ((pV σ 12 x0 2 (.int ((0 : Int32)))).bind fun σ8 => (cb (fX12_cut x0 σ8) fun _ σ9 => ((pV σ9 12 x0 11 (.int ((0 : Int32)))).bind fun σ10 => ((pV σ10 12 x0 12 (.int ((0 : Int32)))).bind fun σ11 => ((pV σ11 12 x0 13 (.int ((0 : Int32)))).bind fun σ12 => ((pV σ12 12 x0 15 (.int ((0 : Int32)))).bind fun σ13 => ((gI σ13 12 x0 18).bind fun t14 => ((pV σ13 12 x0 19 (.int ((((1 : Int32)) - t14)))).bind fun σ15 => ((pV σ15 12 x0 20 (.int ((0 : Int32)))).bind fun σ16 => ((gR σ16 12 x0 22).bind fun t17 => ((gI σ16 12 x0 19).bind fun t18 => ((sI σ16 2 t17 t18 ((0 : Int32))).bind fun σ19 => ((gR σ19 12 x0 25).bind fun t20 => ((gI σ19 12 x0 19).bind fun t21 => ((sI σ19 2 t20 t21 ((100 : Int32))).bind fun σ22 => ((gR σ22 12 x0 26).bind fun t23 => ((gI σ22 12 x0 19).bind fun t24 => ((sI σ22 2 t23 t24 ((0 : Int32))).bind fun σ25 => ((gI σ25 12 x0 19).bind fun t26 => ((pV σ25 12 x0 33 (.int ((((130 : Int32)) * t26)))).bind fun σ27 => ((gI σ27 12 x0 19).bind fun t28 => ((pV σ27 12 x0 39 (.int ((((420 : Int32)) * t28)))).bind fun σ29 => (fX12_read_b137 FU x0 ((0 : Int32)) σ29)))))))))))))))))))))))
set_option maxHeartbeats 2000000 in
theorem sX12_read_b36 {G : GP} {n0 : Nat} : ∀ (x0 : Nat) (σ : Sto), Sim G mX12_read 8 0 0 n0 jI 0 0 36 [(0, .ref x0)] [] σ (fX12_read_b36 x0 σ) := by
  intro x0 σ
  unfold fX12_read_b36
  refine hj_aload_n 0 dX12_read_36 rfl ?_
  refine hj_iconst (0 : Int32) dX12_read_37 (by decide) ?_
  refine hj_put (fpX12_153 _) (fun _ => rfl) (fun _ => rfl) dX12_read_38 (fun σ8 _ => ?_)
  refine hj_aload_n 0 dX12_read_41 rfl ?_
  refine hj_callV (ci := 12) (M' := mX12_cut) (h' := 3) (As := []) mfX12_cut mvX12_cut ⟨_, _, rfl⟩ mlX12_215 dX12_read_42 (kX12_cut G _ _) (fun _ hr => cX12_cutk hr) ⟨Nat.le_of_ble_eq_true rfl, Nat.le_of_ble_eq_true rfl⟩ ⟨Nat.le_refl _, Nat.le_refl _⟩ rfl (Nat.le_of_ble_eq_true rfl) (fun _ σ9 _ => ?_)
  refine hj_aload_n 0 dX12_read_45 rfl ?_
  refine hj_iconst (0 : Int32) dX12_read_46 (by decide) ?_
  refine hj_put (fpX12_194 _) (fun _ => rfl) (fun _ => rfl) dX12_read_47 (fun σ10 _ => ?_)
  refine hj_aload_n 0 dX12_read_50 rfl ?_
  refine hj_iconst (0 : Int32) dX12_read_51 (by decide) ?_
  refine hj_put (fpX12_218 _) (fun _ => rfl) (fun _ => rfl) dX12_read_52 (fun σ11 _ => ?_)
  refine hj_aload_n 0 dX12_read_55 rfl ?_
  refine hj_iconst (0 : Int32) dX12_read_56 (by decide) ?_
  refine hj_put (fpX12_191 _) (fun _ => rfl) (fun _ => rfl) dX12_read_57 (fun σ12 _ => ?_)
  refine hj_aload_n 0 dX12_read_60 rfl ?_
  refine hj_iconst (0 : Int32) dX12_read_61 (by decide) ?_
  refine hj_put (fpX12_200 _) (fun _ => rfl) (fun _ => rfl) dX12_read_62 (fun σ13 _ => ?_)
  refine hj_aload_n 0 dX12_read_65 rfl ?_
  refine hj_iconst (1 : Int32) dX12_read_66 (by decide) ?_
  refine hj_aload_n 0 dX12_read_67 rfl ?_
  refine hj_getI flX12_221 dX12_read_68 (fun t14 _ => ?_)
  refine hj_isub dX12_read_71 ?_
  refine hj_put (fpX12_224 _) (fun _ => rfl) (fun _ => rfl) dX12_read_72 (fun σ15 _ => ?_)
  refine hj_aload_n 0 dX12_read_75 rfl ?_
  refine hj_iconst (0 : Int32) dX12_read_76 (by decide) ?_
  refine hj_put (fpX12_227 _) (fun _ => rfl) (fun _ => rfl) dX12_read_77 (fun σ16 _ => ?_)
  refine hj_aload_n 0 dX12_read_80 rfl ?_
  refine hj_getR flX12_43 dX12_read_81 (fun t17 _ => ?_)
  refine hj_aload_n 0 dX12_read_84 rfl ?_
  refine hj_getI flX12_224 dX12_read_85 (fun t18 _ => ?_)
  refine hj_iconst (0 : Int32) dX12_read_88 (by decide) ?_
  refine hj_iast dX12_read_89 (fun σ19 _ => ?_)
  refine hj_aload_n 0 dX12_read_90 rfl ?_
  refine hj_getR flX12_52 dX12_read_91 (fun t20 _ => ?_)
  refine hj_aload_n 0 dX12_read_94 rfl ?_
  refine hj_getI flX12_224 dX12_read_95 (fun t21 _ => ?_)
  refine hj_bipush (100 : Int32) dX12_read_98 (by decide) ?_
  refine hj_iast dX12_read_100 (fun σ22 _ => ?_)
  refine hj_aload_n 0 dX12_read_101 rfl ?_
  refine hj_getR flX12_55 dX12_read_102 (fun t23 _ => ?_)
  refine hj_aload_n 0 dX12_read_105 rfl ?_
  refine hj_getI flX12_224 dX12_read_106 (fun t24 _ => ?_)
  refine hj_iconst (0 : Int32) dX12_read_109 (by decide) ?_
  refine hj_iast dX12_read_110 (fun σ25 _ => ?_)
  refine hj_aload_n 0 dX12_read_111 rfl ?_
  refine hj_sipush (130 : Int32) dX12_read_112 (by decide) ?_
  refine hj_aload_n 0 dX12_read_115 rfl ?_
  refine hj_getI flX12_224 dX12_read_116 (fun t26 _ => ?_)
  refine hj_imul dX12_read_119 ?_
  refine hj_put (fpX12_230 _) (fun _ => rfl) (fun _ => rfl) dX12_read_120 (fun σ27 _ => ?_)
  refine hj_aload_n 0 dX12_read_123 rfl ?_
  refine hj_sipush (420 : Int32) dX12_read_124 (by decide) ?_
  refine hj_aload_n 0 dX12_read_127 rfl ?_
  refine hj_getI flX12_224 dX12_read_128 (fun t28 _ => ?_)
  refine hj_imul dX12_read_131 ?_
  refine hj_put (fpX12_233 _) (fun _ => rfl) (fun _ => rfl) dX12_read_132 (fun σ29 _ => ?_)
  refine hj_iconst (0 : Int32) dX12_read_135 (by decide) ?_
  refine hj_istore_n (lv' := [(0, .ref x0), (1, .int (0 : Int32))]) dX12_read_136 (by decide) [1, 0] rfl ?_
  refine hj_loc (lv' := [(0, .ref x0), (1, .int (0 : Int32))]) [0, 1] rfl ?_
  exact sX12_read_b137 _ _ _ _
def fX12_read_b10 : Nat → Nat → Int32 → Sto → Option (Int32 × Sto)
  | 0, _, _, _ => none
  | n + 1, x0, x1, σ => ((gI σ 12 x0 4).bind fun t43 => (if t43 ≤ x1 then (fX12_read_b36 x0 σ) else ((gR σ 12 x0 3).bind fun t44 => ((gR σ 12 x0 1).bind fun t45 => ((aI σ 0 t45 x1).bind fun t46 => ((sI σ 0 t44 x1 t46).bind fun σ47 => (fX12_read_b10 n x0 (x1 + (1 : Int32)) σ47)))))))
set_option maxHeartbeats 2000000 in
theorem sX12_read_b10 {G : GP} {n0 : Nat} : ∀ (n : Nat) (x0 : Nat) (x1 : Int32) (σ : Sto), Sim G mX12_read 8 0 0 n0 jI 0 0 10 [(0, .ref x0), (1, .int x1)] [] σ (fX12_read_b10 n x0 x1 σ) := by
  intro n
  induction n with
  | zero => intros; rw [fX12_read_b10]; exact hj_none
  | succ n ih =>
    intro x0 x1 σ
    rw [fX12_read_b10]
    refine hj_iload_n 1 dX12_read_10 rfl ?_
    refine hj_aload_n 0 dX12_read_11 rfl ?_
    refine hj_getI flX12_160 dX12_read_12 (fun t43 _ => ?_)
    refine hj_icmp_ge 36 dX12_read_15 (by decide) (fun _ => ?_) (fun _ => ?_)
    · refine hj_loc (lv' := [(0, .ref x0)]) [0] rfl ?_
      exact sX12_read_b36 _ _
    · refine hj_aload_n 0 dX12_read_18 rfl ?_
      refine hj_getR flX12_17 dX12_read_19 (fun t44 _ => ?_)
      refine hj_iload_n 1 dX12_read_22 rfl ?_
      refine hj_aload_n 0 dX12_read_23 rfl ?_
      refine hj_getR flX12_13 dX12_read_24 (fun t45 _ => ?_)
      refine hj_iload_n 1 dX12_read_27 rfl ?_
      refine hj_bald dX12_read_28 (fun t46 _ => ?_)
      refine hj_bast dX12_read_29 (fun σ47 _ => ?_)
      refine hj_iinc (lv' := [(0, .ref x0), (1, .int (x1 + (1 : Int32)))]) 1 (1 : Int32) dX12_read_30 rfl (by decide) (by decide) [1, 0] rfl ?_
      refine hj_goto 10 dX12_read_33 (by decide) ?_
      refine hj_loc (lv' := [(0, .ref x0), (1, .int (x1 + (1 : Int32)))]) [0, 1] rfl ?_
      exact ih _ _ _
def fX12_read (a0 : Nat) (σ : Sto) : Option (Int32 × Sto) := ck σ 12 a0 ((gI σ 12 a0 2).bind fun t61 => ((pV σ 12 a0 4 (.int t61)).bind fun σ62 => (fX12_read_b10 FU a0 ((0 : Int32)) σ62)))
set_option maxHeartbeats 2000000 in
theorem kX12_read (G : GP) (a0 : Nat) (σ : Sto) : Me G mX12_read 8 0 0 jI [.ref a0] σ (fX12_read a0 σ) := by
  refine hs_me (lv := [(0, .ref a0)]) (plainFor_of_name (by decide +kernel)) (Nat.le_of_ble_eq_true rfl) rfl ?_
  unfold fX12_read
  refine hj_ck ?_
  refine hj_aload_n 0 dX12_read_0 rfl ?_
  refine hj_aload_n 0 dX12_read_1 rfl ?_
  refine hj_getI flX12_153 dX12_read_2 (fun t61 _ => ?_)
  refine hj_put (fpX12_160 _) (fun _ => rfl) (fun _ => rfl) dX12_read_5 (fun σ62 _ => ?_)
  refine hj_iconst (0 : Int32) dX12_read_8 (by decide) ?_
  refine hj_istore_n (lv' := [(0, .ref a0), (1, .int (0 : Int32))]) dX12_read_9 (by decide) [1, 0] rfl ?_
  refine hj_loc (lv' := [(0, .ref a0), (1, .int (0 : Int32))]) [0, 1] rfl ?_
  exact sX12_read_b10 _ _ _ _
theorem cX12_readk {a0 : Nat} {σ : Sto} {r : Int32 × Sto} (h : fX12_read a0 σ = some r) : ∃ fs, hs_o σ 12 a0 = some fs := (ck_of h).1
def fX12_place (a0 : Nat) (σ : Sto) : Option (Int32 × Sto) := ck σ 12 a0 ((gI σ 12 a0 17).bind fun t1 => (some (t1, σ)))
set_option maxHeartbeats 2000000 in
theorem kX12_place (G : GP) (a0 : Nat) (σ : Sto) : Me G mX12_place 1 0 0 jI [.ref a0] σ (fX12_place a0 σ) := by
  refine hs_me (lv := [(0, .ref a0)]) (plainFor_of_name (by decide +kernel)) (Nat.le_of_ble_eq_true rfl) rfl ?_
  unfold fX12_place
  refine hj_ck ?_
  refine hj_aload_n 0 dX12_place_0 rfl ?_
  refine hj_getI flX12_37 dX12_place_1 (fun t1 _ => ?_)
  exact hj_iret dX12_place_4 rfl rfl (Nat.le_refl _)
theorem cX12_placek {a0 : Nat} {σ : Sto} {r : Int32 × Sto} (h : fX12_place a0 σ = some r) : ∃ fs, hs_o σ 12 a0 = some fs := (ck_of h).1
def fX12_termOf_b159 (K5 : Nat → Int32 → Int32 → Int32 → Sto → Option (Int32 × Sto)) (x0 : Nat) (x2 : Int32) (x3 : Int32) (x4 : Int32) (σ : Sto) : Option (Int32 × Sto) := (K5 x0 x2 x3 (x4 + (1 : Int32)) σ)
set_option maxHeartbeats 2000000 in
theorem sX12_termOf_b159 {G : GP} {n0 : Nat} {K5 : Nat → Int32 → Int32 → Int32 → Sto → Option (Int32 × Sto)} (hK5 : ∀ (x0 : Nat) (x2 : Int32) (x3 : Int32) (x4 : Int32) (σ : Sto), Sim G mX12_termOf 1 0 0 n0 jI 0 0 5 [(0, .ref x0), (2, .int x2), (3, .int x3), (4, .int x4)] [] σ (K5 x0 x2 x3 x4 σ)) : ∀ (x0 : Nat) (x2 : Int32) (x3 : Int32) (x4 : Int32) (σ : Sto), Sim G mX12_termOf 1 0 0 n0 jI 0 0 159 [(0, .ref x0), (2, .int x2), (3, .int x3), (4, .int x4)] [] σ (fX12_termOf_b159 K5 x0 x2 x3 x4 σ) := by
  intro x0 x2 x3 x4 σ
  unfold fX12_termOf_b159
  refine hj_iinc (lv' := [(0, .ref x0), (2, .int x2), (3, .int x3), (4, .int (x4 + (1 : Int32)))]) 3 (1 : Int32) dX12_termOf_159 rfl (by decide) (by decide) [1, 2, 3, 0] rfl ?_
  refine hj_goto 5 dX12_termOf_162 (by decide) ?_
  refine hj_loc (lv' := [(0, .ref x0), (2, .int x2), (3, .int x3), (4, .int (x4 + (1 : Int32)))]) [0, 1, 2, 3] rfl ?_
  exact hK5 _ _ _ _ _
def fX12_termOf_b158 (K5 : Nat → Int32 → Int32 → Int32 → Sto → Option (Int32 × Sto)) (x0 : Nat) (x2 : Int32) (x3 : Int32) (x4 : Int32) (y0 : Nat) (y1 : Int32) (y2 : Int32) (σ : Sto) : Option (Int32 × Sto) := ((sI σ 2 y0 y1 y2).bind fun σ19 => (fX12_termOf_b159 K5 x0 x2 x3 x4 σ19))
set_option maxHeartbeats 2000000 in
theorem sX12_termOf_b158 {G : GP} {n0 : Nat} {K5 : Nat → Int32 → Int32 → Int32 → Sto → Option (Int32 × Sto)} (hK5 : ∀ (x0 : Nat) (x2 : Int32) (x3 : Int32) (x4 : Int32) (σ : Sto), Sim G mX12_termOf 1 0 0 n0 jI 0 0 5 [(0, .ref x0), (2, .int x2), (3, .int x3), (4, .int x4)] [] σ (K5 x0 x2 x3 x4 σ)) : ∀ (x0 : Nat) (x2 : Int32) (x3 : Int32) (x4 : Int32) (y0 : Nat) (y1 : Int32) (y2 : Int32) (σ : Sto), Sim G mX12_termOf 1 0 0 n0 jI 0 0 158 [(0, .ref x0), (2, .int x2), (3, .int x3), (4, .int x4)] [.int y2, .int y1, .ref y0] σ (fX12_termOf_b158 K5 x0 x2 x3 x4 y0 y1 y2 σ) := by
  intro x0 x2 x3 x4 y0 y1 y2 σ
  unfold fX12_termOf_b158
  refine hj_iast dX12_termOf_158 (fun σ19 _ => ?_)
  refine hj_loc (lv' := [(0, .ref x0), (2, .int x2), (3, .int x3), (4, .int x4)]) [0, 1, 2, 3] rfl ?_
  exact sX12_termOf_b159 hK5 _ _ _ _ _
def fX12_termOf_b104 (K5 : Nat → Int32 → Int32 → Int32 → Sto → Option (Int32 × Sto)) (x0 : Nat) (x2 : Int32) (x3 : Int32) (x4 : Int32) (x5 : Int32) (x6 : Int32) (x7 : Int32) (σ : Sto) : Option (Int32 × Sto) := ((gR σ 12 x0 45).bind fun t17 => (if x5 = (2 : Int32) then (fX12_termOf_b158 K5 x0 x2 x3 x4 t17 ((x3 - ((1 : Int32)))) ((x6 + x7)) σ) else (if x5 = (3 : Int32) then (fX12_termOf_b158 K5 x0 x2 x3 x4 t17 ((x3 - ((1 : Int32)))) ((x6 - x7)) σ) else (if x5 = (4 : Int32) then (fX12_termOf_b158 K5 x0 x2 x3 x4 t17 ((x3 - ((1 : Int32)))) ((x6 * x7)) σ) else (if x7 = 0 then none else (fX12_termOf_b158 K5 x0 x2 x3 x4 t17 ((x3 - ((1 : Int32)))) ((x6 / x7)) σ))))))
set_option maxHeartbeats 2000000 in
theorem sX12_termOf_b104 {G : GP} {n0 : Nat} {K5 : Nat → Int32 → Int32 → Int32 → Sto → Option (Int32 × Sto)} (hK5 : ∀ (x0 : Nat) (x2 : Int32) (x3 : Int32) (x4 : Int32) (σ : Sto), Sim G mX12_termOf 1 0 0 n0 jI 0 0 5 [(0, .ref x0), (2, .int x2), (3, .int x3), (4, .int x4)] [] σ (K5 x0 x2 x3 x4 σ)) : ∀ (x0 : Nat) (x2 : Int32) (x3 : Int32) (x4 : Int32) (x5 : Int32) (x6 : Int32) (x7 : Int32) (σ : Sto), Sim G mX12_termOf 1 0 0 n0 jI 0 0 104 [(0, .ref x0), (2, .int x2), (3, .int x3), (4, .int x4), (5, .int x5), (6, .int x6), (7, .int x7)] [] σ (fX12_termOf_b104 K5 x0 x2 x3 x4 x5 x6 x7 σ) := by
  intro x0 x2 x3 x4 x5 x6 x7 σ
  unfold fX12_termOf_b104
  refine hj_aload_n 0 dX12_termOf_104 rfl ?_
  refine hj_getR flX12_104 dX12_termOf_105 (fun t17 _ => ?_)
  refine hj_iload_n 2 dX12_termOf_108 rfl ?_
  refine hj_iconst (1 : Int32) dX12_termOf_109 (by decide) ?_
  refine hj_isub dX12_termOf_110 ?_
  refine hj_iload 4 dX12_termOf_111 rfl ?_
  refine hj_iconst (2 : Int32) dX12_termOf_113 (by decide) ?_
  refine hj_icmp_ne 125 dX12_termOf_114 (by decide) (fun _ => ?_) (fun _ => ?_)
  · refine hj_iload 4 dX12_termOf_125 rfl ?_
    refine hj_iconst (3 : Int32) dX12_termOf_127 (by decide) ?_
    refine hj_icmp_ne 139 dX12_termOf_128 (by decide) (fun _ => ?_) (fun _ => ?_)
    · refine hj_iload 4 dX12_termOf_139 rfl ?_
      refine hj_iconst (4 : Int32) dX12_termOf_141 (by decide) ?_
      refine hj_icmp_ne 153 dX12_termOf_142 (by decide) (fun _ => ?_) (fun _ => ?_)
      · refine hj_iload 5 dX12_termOf_153 rfl ?_
        refine hj_iload 6 dX12_termOf_155 rfl ?_
        refine hj_idiv dX12_termOf_157 (fun _ => ?_)
        refine hj_loc (lv' := [(0, .ref x0), (2, .int x2), (3, .int x3), (4, .int x4)]) [0, 1, 2, 3] rfl ?_
        exact sX12_termOf_b158 hK5 _ _ _ _ _ _ _ _
      · refine hj_iload 5 dX12_termOf_145 rfl ?_
        refine hj_iload 6 dX12_termOf_147 rfl ?_
        refine hj_imul dX12_termOf_149 ?_
        refine hj_goto 158 dX12_termOf_150 (by decide) ?_
        refine hj_loc (lv' := [(0, .ref x0), (2, .int x2), (3, .int x3), (4, .int x4)]) [0, 1, 2, 3] rfl ?_
        exact sX12_termOf_b158 hK5 _ _ _ _ _ _ _ _
    · refine hj_iload 5 dX12_termOf_131 rfl ?_
      refine hj_iload 6 dX12_termOf_133 rfl ?_
      refine hj_isub dX12_termOf_135 ?_
      refine hj_goto 158 dX12_termOf_136 (by decide) ?_
      refine hj_loc (lv' := [(0, .ref x0), (2, .int x2), (3, .int x3), (4, .int x4)]) [0, 1, 2, 3] rfl ?_
      exact sX12_termOf_b158 hK5 _ _ _ _ _ _ _ _
  · refine hj_iload 5 dX12_termOf_117 rfl ?_
    refine hj_iload 6 dX12_termOf_119 rfl ?_
    refine hj_iadd dX12_termOf_121 ?_
    refine hj_goto 158 dX12_termOf_122 (by decide) ?_
    refine hj_loc (lv' := [(0, .ref x0), (2, .int x2), (3, .int x3), (4, .int x4)]) [0, 1, 2, 3] rfl ?_
    exact sX12_termOf_b158 hK5 _ _ _ _ _ _ _ _
def fX12_termOf_b58 (K5 : Nat → Int32 → Int32 → Int32 → Sto → Option (Int32 × Sto)) (x0 : Nat) (x2 : Int32) (x3 : Int32) (x4 : Int32) (y0 : Nat) (y1 : Int32) (y2 : Int32) (σ : Sto) : Option (Int32 × Sto) := ((sI σ 2 y0 y1 y2).bind fun σ18 => (fX12_termOf_b159 K5 x0 x2 (x3 + (1 : Int32)) x4 σ18))
set_option maxHeartbeats 2000000 in
theorem sX12_termOf_b58 {G : GP} {n0 : Nat} {K5 : Nat → Int32 → Int32 → Int32 → Sto → Option (Int32 × Sto)} (hK5 : ∀ (x0 : Nat) (x2 : Int32) (x3 : Int32) (x4 : Int32) (σ : Sto), Sim G mX12_termOf 1 0 0 n0 jI 0 0 5 [(0, .ref x0), (2, .int x2), (3, .int x3), (4, .int x4)] [] σ (K5 x0 x2 x3 x4 σ)) : ∀ (x0 : Nat) (x2 : Int32) (x3 : Int32) (x4 : Int32) (y0 : Nat) (y1 : Int32) (y2 : Int32) (σ : Sto), Sim G mX12_termOf 1 0 0 n0 jI 0 0 58 [(0, .ref x0), (2, .int x2), (3, .int x3), (4, .int x4)] [.int y2, .int y1, .ref y0] σ (fX12_termOf_b58 K5 x0 x2 x3 x4 y0 y1 y2 σ) := by
  intro x0 x2 x3 x4 y0 y1 y2 σ
  unfold fX12_termOf_b58
  refine hj_iast dX12_termOf_58 (fun σ18 _ => ?_)
  refine hj_iinc (lv' := [(0, .ref x0), (2, .int x2), (3, .int (x3 + (1 : Int32))), (4, .int x4)]) 2 (1 : Int32) dX12_termOf_59 rfl (by decide) (by decide) [1, 2, 0, 3] rfl ?_
  refine hj_goto 159 dX12_termOf_62 (by decide) ?_
  refine hj_loc (lv' := [(0, .ref x0), (2, .int x2), (3, .int (x3 + (1 : Int32))), (4, .int x4)]) [0, 1, 2, 3] rfl ?_
  exact sX12_termOf_b159 hK5 _ _ _ _ _
def fX12_termOf_b5 : Nat → Nat → Int32 → Int32 → Int32 → Sto → Option (Int32 × Sto)
  | 0, _, _, _, _, _ => none
  | n + 1, x0, x2, x3, x4, σ => (if x2 ≤ x4 then ((gR σ 12 x0 45).bind fun t1 => ((aI σ 2 t1 ((0 : Int32))).bind fun t2 => (some (t2, σ)))) else ((gR σ 12 x0 40).bind fun t3 => ((aI σ 2 t3 x4).bind fun t4 => (if (2 : Int32) ≤ t4 then ((gR σ 12 x0 45).bind fun t5 => ((aI σ 2 t5 (((x3 + (-1 : Int32)) - ((1 : Int32))))).bind fun t6 => ((gR σ 12 x0 45).bind fun t7 => ((aI σ 2 t7 (x3 + (-1 : Int32))).bind fun t8 => (if t4 = (5 : Int32) then (if t8 = 0 then ((pV σ 12 x0 46 (.int ((1 : Int32)))).bind fun σ9 => (some ((0 : Int32), σ9))) else (fX12_termOf_b104 (fX12_termOf_b5 n) x0 x2 (x3 + (-1 : Int32)) x4 t4 t6 t8 σ)) else (fX12_termOf_b104 (fX12_termOf_b5 n) x0 x2 (x3 + (-1 : Int32)) x4 t4 t6 t8 σ)))))) else ((gR σ 12 x0 45).bind fun t10 => (if t4 = 0 then ((gR σ 12 x0 41).bind fun t15 => ((aI σ 2 t15 x4).bind fun t16 => (fX12_termOf_b58 (fX12_termOf_b5 n) x0 x2 x3 x4 t10 x3 t16 σ))) else ((gR σ 12 x0 44).bind fun t11 => ((gR σ 12 x0 41).bind fun t12 => ((aI σ 2 t12 x4).bind fun t13 => ((aI σ 2 t11 t13).bind fun t14 => (fX12_termOf_b58 (fX12_termOf_b5 n) x0 x2 x3 x4 t10 x3 t14 σ)))))))))))
set_option maxHeartbeats 2000000 in
theorem sX12_termOf_b5 {G : GP} {n0 : Nat} : ∀ (n : Nat) (x0 : Nat) (x2 : Int32) (x3 : Int32) (x4 : Int32) (σ : Sto), Sim G mX12_termOf 1 0 0 n0 jI 0 0 5 [(0, .ref x0), (2, .int x2), (3, .int x3), (4, .int x4)] [] σ (fX12_termOf_b5 n x0 x2 x3 x4 σ) := by
  intro n
  induction n with
  | zero => intros; rw [fX12_termOf_b5]; exact hj_none
  | succ n ih =>
    intro x0 x2 x3 x4 σ
    rw [fX12_termOf_b5]
    refine hj_iload 3 dX12_termOf_5 rfl ?_
    refine hj_iload_n 1 dX12_termOf_7 rfl ?_
    refine hj_icmp_ge 165 dX12_termOf_8 (by decide) (fun _ => ?_) (fun _ => ?_)
    · refine hj_aload_n 0 dX12_termOf_165 rfl ?_
      refine hj_getR flX12_104 dX12_termOf_166 (fun t1 _ => ?_)
      refine hj_iconst (0 : Int32) dX12_termOf_169 (by decide) ?_
      refine hj_iald dX12_termOf_170 (fun t2 _ => ?_)
      exact hj_iret dX12_termOf_171 rfl rfl (Nat.le_refl _)
    · refine hj_aload_n 0 dX12_termOf_11 rfl ?_
      refine hj_getR flX12_92 dX12_termOf_12 (fun t3 _ => ?_)
      refine hj_iload 3 dX12_termOf_15 rfl ?_
      refine hj_iald dX12_termOf_17 (fun t4 _ => ?_)
      refine hj_istore (lv' := [(0, .ref x0), (2, .int x2), (3, .int x3), (4, .int x4), (5, .int t4)]) dX12_termOf_18 (by decide) [1, 2, 3, 4, 0] rfl ?_
      refine hj_iload 4 dX12_termOf_20 rfl ?_
      refine hj_iconst (2 : Int32) dX12_termOf_22 (by decide) ?_
      refine hj_icmp_ge 65 dX12_termOf_23 (by decide) (fun _ => ?_) (fun _ => ?_)
      · refine hj_iinc (lv' := [(0, .ref x0), (2, .int x2), (3, .int (x3 + (-1 : Int32))), (4, .int x4), (5, .int t4)]) 2 (-1 : Int32) dX12_termOf_65 rfl (by decide) (by decide) [1, 2, 0, 3, 4] rfl ?_
        refine hj_aload_n 0 dX12_termOf_68 rfl ?_
        refine hj_getR flX12_104 dX12_termOf_69 (fun t5 _ => ?_)
        refine hj_iload_n 2 dX12_termOf_72 rfl ?_
        refine hj_iconst (1 : Int32) dX12_termOf_73 (by decide) ?_
        refine hj_isub dX12_termOf_74 ?_
        refine hj_iald dX12_termOf_75 (fun t6 _ => ?_)
        refine hj_istore (lv' := [(0, .ref x0), (2, .int x2), (3, .int (x3 + (-1 : Int32))), (4, .int x4), (5, .int t4), (6, .int t6)]) dX12_termOf_76 (by decide) [1, 2, 3, 4, 5, 0] rfl ?_
        refine hj_aload_n 0 dX12_termOf_78 rfl ?_
        refine hj_getR flX12_104 dX12_termOf_79 (fun t7 _ => ?_)
        refine hj_iload_n 2 dX12_termOf_82 rfl ?_
        refine hj_iald dX12_termOf_83 (fun t8 _ => ?_)
        refine hj_istore (lv' := [(0, .ref x0), (2, .int x2), (3, .int (x3 + (-1 : Int32))), (4, .int x4), (5, .int t4), (6, .int t6), (7, .int t8)]) dX12_termOf_84 (by decide) [1, 2, 3, 4, 5, 6, 0] rfl ?_
        refine hj_iload 4 dX12_termOf_86 rfl ?_
        refine hj_iconst (5 : Int32) dX12_termOf_88 (by decide) ?_
        refine hj_icmp_ne 104 dX12_termOf_89 (by decide) (fun _ => ?_) (fun _ => ?_)
        · refine hj_loc (lv' := [(0, .ref x0), (2, .int x2), (3, .int (x3 + (-1 : Int32))), (4, .int x4), (5, .int t4), (6, .int t6), (7, .int t8)]) [0, 1, 2, 3, 4, 5, 6] rfl ?_
          exact sX12_termOf_b104 ih _ _ _ _ _ _ _ _
        · refine hj_iload 6 dX12_termOf_92 rfl ?_
          refine hj_if_ne 104 dX12_termOf_94 (by decide) (fun _ => ?_) (fun _ => ?_)
          · refine hj_loc (lv' := [(0, .ref x0), (2, .int x2), (3, .int (x3 + (-1 : Int32))), (4, .int x4), (5, .int t4), (6, .int t6), (7, .int t8)]) [0, 1, 2, 3, 4, 5, 6] rfl ?_
            exact sX12_termOf_b104 ih _ _ _ _ _ _ _ _
          · refine hj_aload_n 0 dX12_termOf_97 rfl ?_
            refine hj_iconst (1 : Int32) dX12_termOf_98 (by decide) ?_
            refine hj_put (fpX12_294 _) (fun _ => rfl) (fun _ => rfl) dX12_termOf_99 (fun σ9 _ => ?_)
            refine hj_iconst (0 : Int32) dX12_termOf_102 (by decide) ?_
            exact hj_iret dX12_termOf_103 rfl rfl (Nat.le_refl _)
      · refine hj_aload_n 0 dX12_termOf_26 rfl ?_
        refine hj_getR flX12_104 dX12_termOf_27 (fun t10 _ => ?_)
        refine hj_iload_n 2 dX12_termOf_30 rfl ?_
        refine hj_iload 4 dX12_termOf_31 rfl ?_
        refine hj_if_ne 46 dX12_termOf_33 (by decide) (fun _ => ?_) (fun _ => ?_)
        · refine hj_aload_n 0 dX12_termOf_46 rfl ?_
          refine hj_getR flX12_101 dX12_termOf_47 (fun t11 _ => ?_)
          refine hj_aload_n 0 dX12_termOf_50 rfl ?_
          refine hj_getR flX12_95 dX12_termOf_51 (fun t12 _ => ?_)
          refine hj_iload 3 dX12_termOf_54 rfl ?_
          refine hj_iald dX12_termOf_56 (fun t13 _ => ?_)
          refine hj_iald dX12_termOf_57 (fun t14 _ => ?_)
          refine hj_loc (lv' := [(0, .ref x0), (2, .int x2), (3, .int x3), (4, .int x4)]) [0, 1, 2, 3] rfl ?_
          exact sX12_termOf_b58 ih _ _ _ _ _ _ _ _
        · refine hj_aload_n 0 dX12_termOf_36 rfl ?_
          refine hj_getR flX12_95 dX12_termOf_37 (fun t15 _ => ?_)
          refine hj_iload 3 dX12_termOf_40 rfl ?_
          refine hj_iald dX12_termOf_42 (fun t16 _ => ?_)
          refine hj_goto 58 dX12_termOf_43 (by decide) ?_
          refine hj_loc (lv' := [(0, .ref x0), (2, .int x2), (3, .int x3), (4, .int x4)]) [0, 1, 2, 3] rfl ?_
          exact sX12_termOf_b58 ih _ _ _ _ _ _ _ _
def fX12_termOf (a0 : Nat) (a1 : Int32) (a2 : Int32) (σ : Sto) : Option (Int32 × Sto) := ck σ 12 a0 (fX12_termOf_b5 FU a0 a2 ((0 : Int32)) a1 σ)
set_option maxHeartbeats 2000000 in
theorem kX12_termOf (G : GP) (a0 : Nat) (a1 : Int32) (a2 : Int32) (σ : Sto) : Me G mX12_termOf 1 0 0 jI [.ref a0, .int a1, .int a2] σ (fX12_termOf a0 a1 a2 σ) := by
  refine hs_me (lv := [(0, .ref a0), (1, .int a1), (2, .int a2)]) (plainFor_of_name (by decide +kernel)) (Nat.le_of_ble_eq_true rfl) rfl ?_
  unfold fX12_termOf
  refine hj_ck ?_
  refine hj_iconst (0 : Int32) dX12_termOf_0 (by decide) ?_
  refine hj_istore_n (lv' := [(0, .ref a0), (1, .int a1), (2, .int a2), (3, .int (0 : Int32))]) dX12_termOf_1 (by decide) [1, 2, 3, 0] rfl ?_
  refine hj_iload_n 1 dX12_termOf_2 rfl ?_
  refine hj_istore (lv' := [(0, .ref a0), (1, .int a1), (2, .int a2), (3, .int (0 : Int32)), (4, .int a1)]) dX12_termOf_3 (by decide) [1, 2, 3, 4, 0] rfl ?_
  refine hj_loc (lv' := [(0, .ref a0), (2, .int a2), (3, .int (0 : Int32)), (4, .int a1)]) [0, 2, 3, 4] rfl ?_
  exact sX12_termOf_b5 _ _ _ _ _ _
theorem cX12_termOfk {a0 : Nat} {a1 : Int32} {a2 : Int32} {σ : Sto} {r : Int32 × Sto} (h : fX12_termOf a0 a1 a2 σ = some r) : ∃ fs, hs_o σ 12 a0 = some fs := (ck_of h).1
def fX12_in (a0 : Int32) (a1 : Int32) (a2 : Int32) (σ : Sto) : Option (Int32 × Sto) := (if a0 < a1 then (some ((0 : Int32), σ)) else (if a2 < a0 then (some ((0 : Int32), σ)) else (some ((1 : Int32), σ))))
set_option maxHeartbeats 2000000 in
theorem kX12_in (G : GP) (a0 : Int32) (a1 : Int32) (a2 : Int32) (σ : Sto) : Me G mX12_in 1 0 0 jI [.int a0, .int a1, .int a2] σ (fX12_in a0 a1 a2 σ) := by
  refine hs_me (lv := [(0, .int a0), (1, .int a1), (2, .int a2)]) (plainFor_of_name (by decide +kernel)) (Nat.le_of_ble_eq_true rfl) rfl ?_
  unfold fX12_in
  refine hj_iload_n 0 dX12_in_0 rfl ?_
  refine hj_iload_n 1 dX12_in_1 rfl ?_
  refine hj_icmp_lt 14 dX12_in_2 (by decide) (fun _ => ?_) (fun _ => ?_)
  · refine hj_iconst (0 : Int32) dX12_in_14 (by decide) ?_
    exact hj_zret dX12_in_15 rfl (by decide) rfl (Nat.le_refl _)
  · refine hj_iload_n 0 dX12_in_5 rfl ?_
    refine hj_iload_n 2 dX12_in_6 rfl ?_
    refine hj_icmp_gt 14 dX12_in_7 (by decide) (fun _ => ?_) (fun _ => ?_)
    · refine hj_iconst (0 : Int32) dX12_in_14 (by decide) ?_
      exact hj_zret dX12_in_15 rfl (by decide) rfl (Nat.le_refl _)
    · refine hj_iconst (1 : Int32) dX12_in_10 (by decide) ?_
      refine hj_goto 15 dX12_in_11 (by decide) ?_
      exact hj_zret dX12_in_15 rfl (by decide) rfl (Nat.le_refl _)
def fX12_isBook (a0 : Nat) (a1 : Int32) (σ : Sto) : Option (Int32 × Sto) := ck σ 12 a0 ((gR σ 12 a0 22).bind fun t1 => ((gI σ 12 a0 18).bind fun t2 => ((aI σ 2 t1 t2).bind fun t3 => (cb (fX12_in a1 ((0 : Int32)) ((t3 - ((1 : Int32)))) σ) fun r5 σ4 => (rZ r5 σ4)))))
set_option maxHeartbeats 2000000 in
theorem kX12_isBook (G : GP) (a0 : Nat) (a1 : Int32) (σ : Sto) : Me G mX12_isBook 2 0 0 jI [.ref a0, .int a1] σ (fX12_isBook a0 a1 σ) := by
  refine hs_me (lv := [(0, .ref a0), (1, .int a1)]) (plainFor_of_name (by decide +kernel)) (Nat.le_of_ble_eq_true rfl) rfl ?_
  unfold fX12_isBook
  refine hj_ck ?_
  refine hj_iload_n 1 dX12_isBook_0 rfl ?_
  refine hj_iconst (0 : Int32) dX12_isBook_1 (by decide) ?_
  refine hj_aload_n 0 dX12_isBook_2 rfl ?_
  refine hj_getR flX12_43 dX12_isBook_3 (fun t1 _ => ?_)
  refine hj_aload_n 0 dX12_isBook_6 rfl ?_
  refine hj_getI flX12_221 dX12_isBook_7 (fun t2 _ => ?_)
  refine hj_iald dX12_isBook_10 (fun t3 _ => ?_)
  refine hj_iconst (1 : Int32) dX12_isBook_11 (by decide) ?_
  refine hj_isub dX12_isBook_12 ?_
  refine hj_callS (M' := mX12_in) (h' := 1) (As := [.int a1, .int ((0 : Int32)), .int ((t3 - ((1 : Int32))))]) mfX12_in msX12_in mlX12_298 dX12_isBook_13 (kX12_in G _ _ _ _) ⟨Nat.le_of_ble_eq_true rfl, Nat.le_of_ble_eq_true rfl⟩ ⟨Nat.le_refl _, Nat.le_refl _⟩ rfl (Nat.le_of_ble_eq_true rfl) (fun r5 σ4 _ => ?_)
  exact hj_rZ dX12_isBook_16 rfl rfl (Nat.le_refl _)
theorem cX12_isBookk {a0 : Nat} {a1 : Int32} {σ : Sto} {r : Int32 × Sto} (h : fX12_isBook a0 a1 σ = some r) : ∃ fs, hs_o σ 12 a0 = some fs := (ck_of h).1
def fX12_isLevel (a0 : Nat) (a1 : Int32) (σ : Sto) : Option (Int32 × Sto) := ck σ 12 a0 ((gR σ 12 a0 47).bind fun t1 => ((aI σ 2 t1 ((18 : Int32))).bind fun t2 => (cb (fX12_in a1 ((0 : Int32)) ((t2 - ((1 : Int32)))) σ) fun r4 σ3 => (rZ r4 σ3))))
set_option maxHeartbeats 2000000 in
theorem kX12_isLevel (G : GP) (a0 : Nat) (a1 : Int32) (σ : Sto) : Me G mX12_isLevel 2 0 0 jI [.ref a0, .int a1] σ (fX12_isLevel a0 a1 σ) := by
  refine hs_me (lv := [(0, .ref a0), (1, .int a1)]) (plainFor_of_name (by decide +kernel)) (Nat.le_of_ble_eq_true rfl) rfl ?_
  unfold fX12_isLevel
  refine hj_ck ?_
  refine hj_iload_n 1 dX12_isLevel_0 rfl ?_
  refine hj_iconst (0 : Int32) dX12_isLevel_1 (by decide) ?_
  refine hj_aload_n 0 dX12_isLevel_2 rfl ?_
  refine hj_getR flX12_107 dX12_isLevel_3 (fun t1 _ => ?_)
  refine hj_bipush (18 : Int32) dX12_isLevel_6 (by decide) ?_
  refine hj_iald dX12_isLevel_8 (fun t2 _ => ?_)
  refine hj_iconst (1 : Int32) dX12_isLevel_9 (by decide) ?_
  refine hj_isub dX12_isLevel_10 ?_
  refine hj_callS (M' := mX12_in) (h' := 1) (As := [.int a1, .int ((0 : Int32)), .int ((t2 - ((1 : Int32))))]) mfX12_in msX12_in mlX12_298 dX12_isLevel_11 (kX12_in G _ _ _ _) ⟨Nat.le_of_ble_eq_true rfl, Nat.le_of_ble_eq_true rfl⟩ ⟨Nat.le_refl _, Nat.le_refl _⟩ rfl (Nat.le_of_ble_eq_true rfl) (fun r4 σ3 _ => ?_)
  exact hj_rZ dX12_isLevel_14 rfl rfl (Nat.le_refl _)
theorem cX12_isLevelk {a0 : Nat} {a1 : Int32} {σ : Sto} {r : Int32 × Sto} (h : fX12_isLevel a0 a1 σ = some r) : ∃ fs, hs_o σ 12 a0 = some fs := (ck_of h).1
def fX12_copies_b38 : Nat → Nat → Int32 → Sto → Option (Unit × Sto)
  | 0, _, _, _ => none
  | n + 1, x0, x1, σ => (if (6 : Int32) ≤ x1 then (some ((), σ)) else ((gR σ 12 x0 52).bind fun t7 => ((sI σ 2 t7 x1 ((0 : Int32))).bind fun σ8 => (fX12_copies_b38 n x0 (x1 + (1 : Int32)) σ8))))
set_option maxHeartbeats 2000000 in
theorem sX12_copies_b38 {G : GP} {n0 : Nat} : ∀ (n : Nat) (x0 : Nat) (x1 : Int32) (σ : Sto), Sim G mX12_copies 1 0 0 n0 jV 0 0 38 [(0, .ref x0), (1, .int x1)] [] σ (fX12_copies_b38 n x0 x1 σ) := by
  intro n
  induction n with
  | zero => intros; rw [fX12_copies_b38]; exact hj_none
  | succ n ih =>
    intro x0 x1 σ
    rw [fX12_copies_b38]
    refine hj_iload_n 1 dX12_copies_38 rfl ?_
    refine hj_bipush (6 : Int32) dX12_copies_39 (by decide) ?_
    refine hj_icmp_ge 57 dX12_copies_41 (by decide) (fun _ => ?_) (fun _ => ?_)
    · exact hj_vret dX12_copies_57 rfl rfl (Nat.le_refl _)
    · refine hj_aload_n 0 dX12_copies_44 rfl ?_
      refine hj_getR flX12_113 dX12_copies_45 (fun t7 _ => ?_)
      refine hj_iload_n 1 dX12_copies_48 rfl ?_
      refine hj_iconst (0 : Int32) dX12_copies_49 (by decide) ?_
      refine hj_iast dX12_copies_50 (fun σ8 _ => ?_)
      refine hj_iinc (lv' := [(0, .ref x0), (1, .int (x1 + (1 : Int32)))]) 1 (1 : Int32) dX12_copies_51 rfl (by decide) (by decide) [1, 0] rfl ?_
      refine hj_goto 38 dX12_copies_54 (by decide) ?_
      refine hj_loc (lv' := [(0, .ref x0), (1, .int (x1 + (1 : Int32)))]) [0, 1] rfl ?_
      exact ih _ _ _
def fX12_copies_b26 (x0 : Nat) (σ : Sto) : Option (Unit × Sto) := ((pV σ 12 x0 49 (.int ((0 : Int32)))).bind fun σ5 => ((pV σ5 12 x0 50 (.int ((-1 : Int32)))).bind fun σ6 => (fX12_copies_b38 FU x0 ((0 : Int32)) σ6)))
set_option maxHeartbeats 2000000 in
theorem sX12_copies_b26 {G : GP} {n0 : Nat} : ∀ (x0 : Nat) (σ : Sto), Sim G mX12_copies 1 0 0 n0 jV 0 0 26 [(0, .ref x0)] [] σ (fX12_copies_b26 x0 σ) := by
  intro x0 σ
  unfold fX12_copies_b26
  refine hj_aload_n 0 dX12_copies_26 rfl ?_
  refine hj_iconst (0 : Int32) dX12_copies_27 (by decide) ?_
  refine hj_put (fpX12_302 _) (fun _ => rfl) (fun _ => rfl) dX12_copies_28 (fun σ5 _ => ?_)
  refine hj_aload_n 0 dX12_copies_31 rfl ?_
  refine hj_iconst (-1 : Int32) dX12_copies_32 (by decide) ?_
  refine hj_put (fpX12_305 _) (fun _ => rfl) (fun _ => rfl) dX12_copies_33 (fun σ6 _ => ?_)
  refine hj_iconst (0 : Int32) dX12_copies_36 (by decide) ?_
  refine hj_istore_n (lv' := [(0, .ref x0), (1, .int (0 : Int32))]) dX12_copies_37 (by decide) [1, 0] rfl ?_
  refine hj_loc (lv' := [(0, .ref x0), (1, .int (0 : Int32))]) [0, 1] rfl ?_
  exact sX12_copies_b38 _ _ _ _
def fX12_copies_b2 : Nat → Nat → Int32 → Sto → Option (Unit × Sto)
  | 0, _, _, _ => none
  | n + 1, x0, x1, σ => (if (20 : Int32) ≤ x1 then (fX12_copies_b26 x0 σ) else ((gR σ 12 x0 48).bind fun t1 => ((gR σ 12 x0 47).bind fun t2 => ((aI σ 2 t2 x1).bind fun t3 => ((sI σ 2 t1 x1 t3).bind fun σ4 => (fX12_copies_b2 n x0 (x1 + (1 : Int32)) σ4))))))
set_option maxHeartbeats 2000000 in
theorem sX12_copies_b2 {G : GP} {n0 : Nat} : ∀ (n : Nat) (x0 : Nat) (x1 : Int32) (σ : Sto), Sim G mX12_copies 1 0 0 n0 jV 0 0 2 [(0, .ref x0), (1, .int x1)] [] σ (fX12_copies_b2 n x0 x1 σ) := by
  intro n
  induction n with
  | zero => intros; rw [fX12_copies_b2]; exact hj_none
  | succ n ih =>
    intro x0 x1 σ
    rw [fX12_copies_b2]
    refine hj_iload_n 1 dX12_copies_2 rfl ?_
    refine hj_bipush (20 : Int32) dX12_copies_3 (by decide) ?_
    refine hj_icmp_ge 26 dX12_copies_5 (by decide) (fun _ => ?_) (fun _ => ?_)
    · refine hj_loc (lv' := [(0, .ref x0)]) [0] rfl ?_
      exact sX12_copies_b26 _ _
    · refine hj_aload_n 0 dX12_copies_8 rfl ?_
      refine hj_getR flX12_110 dX12_copies_9 (fun t1 _ => ?_)
      refine hj_iload_n 1 dX12_copies_12 rfl ?_
      refine hj_aload_n 0 dX12_copies_13 rfl ?_
      refine hj_getR flX12_107 dX12_copies_14 (fun t2 _ => ?_)
      refine hj_iload_n 1 dX12_copies_17 rfl ?_
      refine hj_iald dX12_copies_18 (fun t3 _ => ?_)
      refine hj_iast dX12_copies_19 (fun σ4 _ => ?_)
      refine hj_iinc (lv' := [(0, .ref x0), (1, .int (x1 + (1 : Int32)))]) 1 (1 : Int32) dX12_copies_20 rfl (by decide) (by decide) [1, 0] rfl ?_
      refine hj_goto 2 dX12_copies_23 (by decide) ?_
      refine hj_loc (lv' := [(0, .ref x0), (1, .int (x1 + (1 : Int32)))]) [0, 1] rfl ?_
      exact ih _ _ _
def fX12_copies (a0 : Nat) (σ : Sto) : Option (Unit × Sto) := ck σ 12 a0 (fX12_copies_b2 FU a0 ((0 : Int32)) σ)
set_option maxHeartbeats 2000000 in
theorem kX12_copies (G : GP) (a0 : Nat) (σ : Sto) : Me G mX12_copies 1 0 0 jV [.ref a0] σ (fX12_copies a0 σ) := by
  refine hs_me (lv := [(0, .ref a0)]) (plainFor_of_name (by decide +kernel)) (Nat.le_of_ble_eq_true rfl) rfl ?_
  unfold fX12_copies
  refine hj_ck ?_
  refine hj_iconst (0 : Int32) dX12_copies_0 (by decide) ?_
  refine hj_istore_n (lv' := [(0, .ref a0), (1, .int (0 : Int32))]) dX12_copies_1 (by decide) [1, 0] rfl ?_
  refine hj_loc (lv' := [(0, .ref a0), (1, .int (0 : Int32))]) [0, 1] rfl ?_
  exact sX12_copies_b2 _ _ _ _
theorem cX12_copiesk {a0 : Nat} {σ : Sto} {r : Unit × Sto} (h : fX12_copies a0 σ = some r) : ∃ fs, hs_o σ 12 a0 = some fs := (ck_of h).1
def fX12_levelOf_b2 : Nat → Nat → Int32 → Int32 → Sto → Option (Int32 × Sto)
  | 0, _, _, _, _ => none
  | n + 1, x0, x1, x2, σ => ((gR σ 12 x0 48).bind fun t1 => ((aI σ 2 t1 ((18 : Int32))).bind fun t2 => (if t2 ≤ x2 then (some ((-2 : Int32), σ)) else ((gR σ 12 x0 48).bind fun t3 => ((aI σ 2 t3 x2).bind fun t4 => (if t4 = x1 then (some (x2, σ)) else (fX12_levelOf_b2 n x0 x1 (x2 + (1 : Int32)) σ)))))))
set_option maxHeartbeats 2000000 in
theorem sX12_levelOf_b2 {G : GP} {n0 : Nat} : ∀ (n : Nat) (x0 : Nat) (x1 : Int32) (x2 : Int32) (σ : Sto), Sim G mX12_levelOf 1 0 0 n0 jI 0 0 2 [(0, .ref x0), (1, .int x1), (2, .int x2)] [] σ (fX12_levelOf_b2 n x0 x1 x2 σ) := by
  intro n
  induction n with
  | zero => intros; rw [fX12_levelOf_b2]; exact hj_none
  | succ n ih =>
    intro x0 x1 x2 σ
    rw [fX12_levelOf_b2]
    refine hj_iload_n 2 dX12_levelOf_2 rfl ?_
    refine hj_aload_n 0 dX12_levelOf_3 rfl ?_
    refine hj_getR flX12_110 dX12_levelOf_4 (fun t1 _ => ?_)
    refine hj_bipush (18 : Int32) dX12_levelOf_7 (by decide) ?_
    refine hj_iald dX12_levelOf_9 (fun t2 _ => ?_)
    refine hj_icmp_ge 31 dX12_levelOf_10 (by decide) (fun _ => ?_) (fun _ => ?_)
    · refine hj_bipush (-2 : Int32) dX12_levelOf_31 (by decide) ?_
      exact hj_iret dX12_levelOf_33 rfl rfl (Nat.le_refl _)
    · refine hj_aload_n 0 dX12_levelOf_13 rfl ?_
      refine hj_getR flX12_110 dX12_levelOf_14 (fun t3 _ => ?_)
      refine hj_iload_n 2 dX12_levelOf_17 rfl ?_
      refine hj_iald dX12_levelOf_18 (fun t4 _ => ?_)
      refine hj_iload_n 1 dX12_levelOf_19 rfl ?_
      refine hj_icmp_ne 25 dX12_levelOf_20 (by decide) (fun _ => ?_) (fun _ => ?_)
      · refine hj_iinc (lv' := [(0, .ref x0), (1, .int x1), (2, .int (x2 + (1 : Int32)))]) 2 (1 : Int32) dX12_levelOf_25 rfl (by decide) (by decide) [1, 2, 0] rfl ?_
        refine hj_goto 2 dX12_levelOf_28 (by decide) ?_
        refine hj_loc (lv' := [(0, .ref x0), (1, .int x1), (2, .int (x2 + (1 : Int32)))]) [0, 1, 2] rfl ?_
        exact ih _ _ _ _
      · refine hj_iload_n 2 dX12_levelOf_23 rfl ?_
        exact hj_iret dX12_levelOf_24 rfl rfl (Nat.le_refl _)
def fX12_levelOf (a0 : Nat) (a1 : Int32) (σ : Sto) : Option (Int32 × Sto) := ck σ 12 a0 (fX12_levelOf_b2 FU a0 a1 ((0 : Int32)) σ)
set_option maxHeartbeats 2000000 in
theorem kX12_levelOf (G : GP) (a0 : Nat) (a1 : Int32) (σ : Sto) : Me G mX12_levelOf 1 0 0 jI [.ref a0, .int a1] σ (fX12_levelOf a0 a1 σ) := by
  refine hs_me (lv := [(0, .ref a0), (1, .int a1)]) (plainFor_of_name (by decide +kernel)) (Nat.le_of_ble_eq_true rfl) rfl ?_
  unfold fX12_levelOf
  refine hj_ck ?_
  refine hj_iconst (0 : Int32) dX12_levelOf_0 (by decide) ?_
  refine hj_istore_n (lv' := [(0, .ref a0), (1, .int a1), (2, .int (0 : Int32))]) dX12_levelOf_1 (by decide) [1, 2, 0] rfl ?_
  refine hj_loc (lv' := [(0, .ref a0), (1, .int a1), (2, .int (0 : Int32))]) [0, 1, 2] rfl ?_
  exact sX12_levelOf_b2 _ _ _ _ _
theorem cX12_levelOfk {a0 : Nat} {a1 : Int32} {σ : Sto} {r : Int32 × Sto} (h : fX12_levelOf a0 a1 σ = some r) : ∃ fs, hs_o σ 12 a0 = some fs := (ck_of h).1
def fX12_longAt (a0 : Nat) (a1 : Int32) (σ : Sto) : Option (Int32 × Sto) := ck σ 12 a0 ((gR σ 12 a0 23).bind fun t1 => ((gI σ 12 a0 18).bind fun t2 => ((gR σ 12 a0 48).bind fun t3 => ((aI σ 2 t3 a1).bind fun t4 => ((aI σ 2 t1 ((((((6 : Int32)) * t2)) + t4))).bind fun t5 => (some (t5, σ)))))))
set_option maxHeartbeats 2000000 in
theorem kX12_longAt (G : GP) (a0 : Nat) (a1 : Int32) (σ : Sto) : Me G mX12_longAt 1 0 0 jI [.ref a0, .int a1] σ (fX12_longAt a0 a1 σ) := by
  refine hs_me (lv := [(0, .ref a0), (1, .int a1)]) (plainFor_of_name (by decide +kernel)) (Nat.le_of_ble_eq_true rfl) rfl ?_
  unfold fX12_longAt
  refine hj_ck ?_
  refine hj_aload_n 0 dX12_longAt_0 rfl ?_
  refine hj_getR flX12_46 dX12_longAt_1 (fun t1 _ => ?_)
  refine hj_bipush (6 : Int32) dX12_longAt_4 (by decide) ?_
  refine hj_aload_n 0 dX12_longAt_6 rfl ?_
  refine hj_getI flX12_221 dX12_longAt_7 (fun t2 _ => ?_)
  refine hj_imul dX12_longAt_10 ?_
  refine hj_aload_n 0 dX12_longAt_11 rfl ?_
  refine hj_getR flX12_110 dX12_longAt_12 (fun t3 _ => ?_)
  refine hj_iload_n 1 dX12_longAt_15 rfl ?_
  refine hj_iald dX12_longAt_16 (fun t4 _ => ?_)
  refine hj_iadd dX12_longAt_17 ?_
  refine hj_iald dX12_longAt_18 (fun t5 _ => ?_)
  exact hj_iret dX12_longAt_19 rfl rfl (Nat.le_refl _)
theorem cX12_longAtk {a0 : Nat} {a1 : Int32} {σ : Sto} {r : Int32 × Sto} (h : fX12_longAt a0 a1 σ = some r) : ∃ fs, hs_o σ 12 a0 = some fs := (ck_of h).1
def fX12_tellsBy_b84 (x0 : Nat) (x2 : Int32) (σ : Sto) : Option (Int32 × Sto) := ((gR σ 12 x0 37).bind fun t18 => ((aI σ 2 t18 x2).bind fun t19 => ((gR σ 12 x0 38).bind fun t20 => ((aI σ 2 t20 x2).bind fun t21 => (cb (fX12_termOf x0 t19 t21 σ) fun r23 σ22 => ((gI σ22 12 x0 46).bind fun t24 => (if t24 = 0 then (some (r23, σ22)) else (some ((0 : Int32), σ22)))))))))
set_option maxHeartbeats 2000000 in
theorem sX12_tellsBy_b84 {G : GP} {n0 : Nat} : ∀ (x0 : Nat) (x2 : Int32) (σ : Sto), Sim G mX12_tellsBy 2 0 0 n0 jI 0 0 84 [(0, .ref x0), (2, .int x2)] [] σ (fX12_tellsBy_b84 x0 x2 σ) := by
  intro x0 x2 σ
  unfold fX12_tellsBy_b84
  refine hj_aload_n 0 dX12_tellsBy_84 rfl ?_
  refine hj_aload_n 0 dX12_tellsBy_85 rfl ?_
  refine hj_getR flX12_86 dX12_tellsBy_86 (fun t18 _ => ?_)
  refine hj_iload_n 1 dX12_tellsBy_89 rfl ?_
  refine hj_iald dX12_tellsBy_90 (fun t19 _ => ?_)
  refine hj_aload_n 0 dX12_tellsBy_91 rfl ?_
  refine hj_getR flX12_89 dX12_tellsBy_92 (fun t20 _ => ?_)
  refine hj_iload_n 1 dX12_tellsBy_95 rfl ?_
  refine hj_iald dX12_tellsBy_96 (fun t21 _ => ?_)
  refine hj_callV (ci := 12) (M' := mX12_termOf) (h' := 1) (As := [.int t19, .int t21]) mfX12_termOf mvX12_termOf ⟨_, _, rfl⟩ mlX12_311 dX12_tellsBy_97 (kX12_termOf G _ _ _ _) (fun _ hr => cX12_termOfk hr) ⟨Nat.le_of_ble_eq_true rfl, Nat.le_of_ble_eq_true rfl⟩ ⟨Nat.le_refl _, Nat.le_refl _⟩ rfl (Nat.le_of_ble_eq_true rfl) (fun r23 σ22 _ => ?_)
  refine hj_istore_n (lv' := [(0, .ref x0), (2, .int x2), (3, .int r23)]) dX12_tellsBy_100 (by decide) [1, 2, 0] rfl ?_
  refine hj_aload_n 0 dX12_tellsBy_101 rfl ?_
  refine hj_getI flX12_294 dX12_tellsBy_102 (fun t24 _ => ?_)
  refine hj_if_eq 112 dX12_tellsBy_105 (by decide) (fun _ => ?_) (fun _ => ?_)
  · refine hj_iload_n 2 dX12_tellsBy_112 rfl ?_
    exact hj_iret dX12_tellsBy_113 rfl rfl (Nat.le_refl _)
  · refine hj_iconst (0 : Int32) dX12_tellsBy_108 (by decide) ?_
    refine hj_goto 113 dX12_tellsBy_109 (by decide) ?_
    exact hj_iret dX12_tellsBy_113 rfl rfl (Nat.le_refl _)
def fX12_tellsBy_b12 : Nat → Nat → Int32 → Int32 → Sto → Option (Int32 × Sto)
  | 0, _, _, _, _ => none
  | n + 1, x0, x1, x2, σ => ((gR σ 12 x0 32).bind fun t1 => ((aI σ 2 t1 x1).bind fun t2 => (if t2 ≤ x2 then (some ((0 : Int32), σ)) else ((gR σ 12 x0 34).bind fun t3 => ((aI σ 4 t3 x2).bind fun t4 => (if t4 = 0 then (fX12_tellsBy_b84 x0 x2 σ) else ((gR σ 12 x0 35).bind fun t5 => ((aI σ 2 t5 x2).bind fun t6 => ((gR σ 12 x0 36).bind fun t7 => ((aI σ 2 t7 x2).bind fun t8 => (cb (fX12_termOf x0 t6 t8 σ) fun r10 σ9 => ((gR σ9 12 x0 36).bind fun t11 => ((aI σ9 2 t11 x2).bind fun t12 => ((gR σ9 12 x0 37).bind fun t13 => ((aI σ9 2 t13 x2).bind fun t14 => (cb (fX12_termOf x0 t12 t14 σ9) fun r16 σ15 => ((gI σ15 12 x0 46).bind fun t17 => (if t17 = 0 then (if r10 < r16 then (fX12_tellsBy_b84 x0 x2 σ15) else (fX12_tellsBy_b12 n x0 x1 (x2 + (1 : Int32)) σ15)) else (some ((0 : Int32), σ15))))))))))))))))))))
set_option maxHeartbeats 2000000 in
theorem sX12_tellsBy_b12 {G : GP} {n0 : Nat} : ∀ (n : Nat) (x0 : Nat) (x1 : Int32) (x2 : Int32) (σ : Sto), Sim G mX12_tellsBy 2 0 0 n0 jI 0 0 12 [(0, .ref x0), (1, .int x1), (2, .int x2)] [] σ (fX12_tellsBy_b12 n x0 x1 x2 σ) := by
  intro n
  induction n with
  | zero => intros; rw [fX12_tellsBy_b12]; exact hj_none
  | succ n ih =>
    intro x0 x1 x2 σ
    rw [fX12_tellsBy_b12]
    refine hj_iload_n 2 dX12_tellsBy_12 rfl ?_
    refine hj_aload_n 0 dX12_tellsBy_13 rfl ?_
    refine hj_getR flX12_73 dX12_tellsBy_14 (fun t1 _ => ?_)
    refine hj_iload_n 1 dX12_tellsBy_17 rfl ?_
    refine hj_iald dX12_tellsBy_18 (fun t2 _ => ?_)
    refine hj_icmp_ge 120 dX12_tellsBy_19 (by decide) (fun _ => ?_) (fun _ => ?_)
    · refine hj_iconst (0 : Int32) dX12_tellsBy_120 (by decide) ?_
      exact hj_iret dX12_tellsBy_121 rfl rfl (Nat.le_refl _)
    · refine hj_aload_n 0 dX12_tellsBy_22 rfl ?_
      refine hj_getR flX12_76 dX12_tellsBy_23 (fun t3 _ => ?_)
      refine hj_iload_n 2 dX12_tellsBy_26 rfl ?_
      refine hj_zald dX12_tellsBy_27 (fun t4 _ => ?_)
      refine hj_if_eq 84 dX12_tellsBy_28 (by decide) (fun _ => ?_) (fun _ => ?_)
      · refine hj_loc (lv' := [(0, .ref x0), (2, .int x2)]) [0, 2] rfl ?_
        exact sX12_tellsBy_b84 _ _ _
      · refine hj_aload_n 0 dX12_tellsBy_31 rfl ?_
        refine hj_aload_n 0 dX12_tellsBy_32 rfl ?_
        refine hj_getR flX12_80 dX12_tellsBy_33 (fun t5 _ => ?_)
        refine hj_iload_n 2 dX12_tellsBy_36 rfl ?_
        refine hj_iald dX12_tellsBy_37 (fun t6 _ => ?_)
        refine hj_aload_n 0 dX12_tellsBy_38 rfl ?_
        refine hj_getR flX12_83 dX12_tellsBy_39 (fun t7 _ => ?_)
        refine hj_iload_n 2 dX12_tellsBy_42 rfl ?_
        refine hj_iald dX12_tellsBy_43 (fun t8 _ => ?_)
        refine hj_callV (ci := 12) (M' := mX12_termOf) (h' := 1) (As := [.int t6, .int t8]) mfX12_termOf mvX12_termOf ⟨_, _, rfl⟩ mlX12_311 dX12_tellsBy_44 (kX12_termOf G _ _ _ _) (fun _ hr => cX12_termOfk hr) ⟨Nat.le_of_ble_eq_true rfl, Nat.le_of_ble_eq_true rfl⟩ ⟨Nat.le_refl _, Nat.le_refl _⟩ rfl (Nat.le_of_ble_eq_true rfl) (fun r10 σ9 _ => ?_)
        refine hj_istore_n (lv' := [(0, .ref x0), (1, .int x1), (2, .int x2), (3, .int r10)]) dX12_tellsBy_47 (by decide) [1, 2, 3, 0] rfl ?_
        refine hj_aload_n 0 dX12_tellsBy_48 rfl ?_
        refine hj_aload_n 0 dX12_tellsBy_49 rfl ?_
        refine hj_getR flX12_83 dX12_tellsBy_50 (fun t11 _ => ?_)
        refine hj_iload_n 2 dX12_tellsBy_53 rfl ?_
        refine hj_iald dX12_tellsBy_54 (fun t12 _ => ?_)
        refine hj_aload_n 0 dX12_tellsBy_55 rfl ?_
        refine hj_getR flX12_86 dX12_tellsBy_56 (fun t13 _ => ?_)
        refine hj_iload_n 2 dX12_tellsBy_59 rfl ?_
        refine hj_iald dX12_tellsBy_60 (fun t14 _ => ?_)
        refine hj_callV (ci := 12) (M' := mX12_termOf) (h' := 1) (As := [.int t12, .int t14]) mfX12_termOf mvX12_termOf ⟨_, _, rfl⟩ mlX12_311 dX12_tellsBy_61 (kX12_termOf G _ _ _ _) (fun _ hr => cX12_termOfk hr) ⟨Nat.le_of_ble_eq_true rfl, Nat.le_of_ble_eq_true rfl⟩ ⟨Nat.le_refl _, Nat.le_refl _⟩ rfl (Nat.le_of_ble_eq_true rfl) (fun r16 σ15 _ => ?_)
        refine hj_istore (lv' := [(0, .ref x0), (1, .int x1), (2, .int x2), (3, .int r10), (4, .int r16)]) dX12_tellsBy_64 (by decide) [1, 2, 3, 4, 0] rfl ?_
        refine hj_aload_n 0 dX12_tellsBy_66 rfl ?_
        refine hj_getI flX12_294 dX12_tellsBy_67 (fun t17 _ => ?_)
        refine hj_if_eq 75 dX12_tellsBy_70 (by decide) (fun _ => ?_) (fun _ => ?_)
        · refine hj_iload_n 3 dX12_tellsBy_75 rfl ?_
          refine hj_iload 4 dX12_tellsBy_76 rfl ?_
          refine hj_icmp_lt 84 dX12_tellsBy_78 (by decide) (fun _ => ?_) (fun _ => ?_)
          · refine hj_loc (lv' := [(0, .ref x0), (2, .int x2)]) [0, 2] rfl ?_
            exact sX12_tellsBy_b84 _ _ _
          · refine hj_goto 114 dX12_tellsBy_81 (by decide) ?_
            refine hj_iinc (lv' := [(0, .ref x0), (1, .int x1), (2, .int (x2 + (1 : Int32))), (3, .int r10), (4, .int r16)]) 2 (1 : Int32) dX12_tellsBy_114 rfl (by decide) (by decide) [1, 2, 0, 3, 4] rfl ?_
            refine hj_goto 12 dX12_tellsBy_117 (by decide) ?_
            refine hj_loc (lv' := [(0, .ref x0), (1, .int x1), (2, .int (x2 + (1 : Int32)))]) [0, 1, 2] rfl ?_
            exact ih _ _ _ _
        · refine hj_iconst (0 : Int32) dX12_tellsBy_73 (by decide) ?_
          exact hj_iret dX12_tellsBy_74 rfl rfl (Nat.le_refl _)
def fX12_tellsBy (a0 : Nat) (a1 : Int32) (σ : Sto) : Option (Int32 × Sto) := ck σ 12 a0 ((pV σ 12 a0 46 (.int ((0 : Int32)))).bind fun σ25 => ((gR σ25 12 a0 31).bind fun t26 => ((aI σ25 2 t26 a1).bind fun t27 => (fX12_tellsBy_b12 FU a0 a1 t27 σ25))))
set_option maxHeartbeats 2000000 in
theorem kX12_tellsBy (G : GP) (a0 : Nat) (a1 : Int32) (σ : Sto) : Me G mX12_tellsBy 2 0 0 jI [.ref a0, .int a1] σ (fX12_tellsBy a0 a1 σ) := by
  refine hs_me (lv := [(0, .ref a0), (1, .int a1)]) (plainFor_of_name (by decide +kernel)) (Nat.le_of_ble_eq_true rfl) rfl ?_
  unfold fX12_tellsBy
  refine hj_ck ?_
  refine hj_aload_n 0 dX12_tellsBy_0 rfl ?_
  refine hj_iconst (0 : Int32) dX12_tellsBy_1 (by decide) ?_
  refine hj_put (fpX12_294 _) (fun _ => rfl) (fun _ => rfl) dX12_tellsBy_2 (fun σ25 _ => ?_)
  refine hj_aload_n 0 dX12_tellsBy_5 rfl ?_
  refine hj_getR flX12_70 dX12_tellsBy_6 (fun t26 _ => ?_)
  refine hj_iload_n 1 dX12_tellsBy_9 rfl ?_
  refine hj_iald dX12_tellsBy_10 (fun t27 _ => ?_)
  refine hj_istore_n (lv' := [(0, .ref a0), (1, .int a1), (2, .int t27)]) dX12_tellsBy_11 (by decide) [1, 2, 0] rfl ?_
  refine hj_loc (lv' := [(0, .ref a0), (1, .int a1), (2, .int t27)]) [0, 1, 2] rfl ?_
  exact sX12_tellsBy_b12 _ _ _ _ _
theorem cX12_tellsByk {a0 : Nat} {a1 : Int32} {σ : Sto} {r : Int32 × Sto} (h : fX12_tellsBy a0 a1 σ = some r) : ∃ fs, hs_o σ 12 a0 = some fs := (ck_of h).1
def fX12_weighsAt (a0 : Nat) (a1 : Int32) (σ : Sto) : Option (Int32 × Sto) := ck σ 12 a0 ((gR σ 12 a0 48).bind fun t1 => ((aI σ 2 t1 a1).bind fun t2 => ((gR σ 12 a0 52).bind fun t3 => ((aI σ 2 t3 t2).bind fun t4 => (if t4 ≤ 0 then ((gI σ 12 a0 18).bind fun t5 => (lt ((((((6 : Int32)) * t5)) + t2)) fun v6 => ((gR σ 12 a0 24).bind fun t7 => ((aI σ 2 t7 v6).bind fun t8 => ((gR σ 12 a0 31).bind fun t9 => ((aI σ 2 t9 v6).bind fun t10 => ((gR σ 12 a0 32).bind fun t11 => ((aI σ 2 t11 v6).bind fun t12 => (if t10 = t12 then (some (t8, σ)) else ((gR σ 12 a0 44).bind fun t13 => ((gR σ 12 a0 23).bind fun t14 => ((aI σ 2 t14 v6).bind fun t15 => ((sI σ 2 t13 ((0 : Int32)) t15).bind fun σ16 => ((gR σ16 12 a0 44).bind fun t17 => ((sI σ16 2 t17 ((1 : Int32)) t8).bind fun σ18 => ((gR σ18 12 a0 44).bind fun t19 => ((sI σ18 2 t19 ((2 : Int32)) a1).bind fun σ20 => ((gR σ20 12 a0 44).bind fun t21 => ((gR σ20 12 a0 48).bind fun t22 => ((aI σ20 2 t22 ((((6 : Int32)) + a1))).bind fun t23 => ((sI σ20 2 t21 ((3 : Int32)) t23).bind fun σ24 => ((gR σ24 12 a0 44).bind fun t25 => ((gR σ24 12 a0 48).bind fun t26 => ((aI σ24 2 t26 ((18 : Int32))).bind fun t27 => ((sI σ24 2 t25 ((4 : Int32)) ((((t27 - ((1 : Int32)))) - a1))).bind fun σ28 => (cb (fX12_tellsBy a0 v6 σ28) fun r30 σ29 => (if (1 : Int32) ≤ r30 then (if r30 ≤ (99 : Int32) then (some (r30, σ29)) else (some ((99 : Int32), σ29))) else (some ((1 : Int32), σ29))))))))))))))))))))))))))))) else ((gR σ 12 a0 52).bind fun t31 => ((aI σ 2 t31 t2).bind fun t32 => (some (t32, σ)))))))))
set_option maxHeartbeats 2000000 in
theorem kX12_weighsAt (G : GP) (a0 : Nat) (a1 : Int32) (σ : Sto) : Me G mX12_weighsAt 3 0 0 jI [.ref a0, .int a1] σ (fX12_weighsAt a0 a1 σ) := by
  refine hs_me (lv := [(0, .ref a0), (1, .int a1)]) (plainFor_of_name (by decide +kernel)) (Nat.le_of_ble_eq_true rfl) rfl ?_
  unfold fX12_weighsAt
  refine hj_ck ?_
  refine hj_aload_n 0 dX12_weighsAt_0 rfl ?_
  refine hj_getR flX12_110 dX12_weighsAt_1 (fun t1 _ => ?_)
  refine hj_iload_n 1 dX12_weighsAt_4 rfl ?_
  refine hj_iald dX12_weighsAt_5 (fun t2 _ => ?_)
  refine hj_istore_n (lv' := [(0, .ref a0), (1, .int a1), (2, .int t2)]) dX12_weighsAt_6 (by decide) [1, 2, 0] rfl ?_
  refine hj_aload_n 0 dX12_weighsAt_7 rfl ?_
  refine hj_getR flX12_113 dX12_weighsAt_8 (fun t3 _ => ?_)
  refine hj_iload_n 2 dX12_weighsAt_11 rfl ?_
  refine hj_iald dX12_weighsAt_12 (fun t4 _ => ?_)
  refine hj_if_le 23 dX12_weighsAt_13 (by decide) (fun _ => ?_) (fun _ => ?_)
  · refine hj_bipush (6 : Int32) dX12_weighsAt_23 (by decide) ?_
    refine hj_aload_n 0 dX12_weighsAt_25 rfl ?_
    refine hj_getI flX12_221 dX12_weighsAt_26 (fun t5 _ => ?_)
    refine hj_imul dX12_weighsAt_29 ?_
    refine hj_iload_n 2 dX12_weighsAt_30 rfl ?_
    refine hj_iadd dX12_weighsAt_31 ?_
    refine hj_ltI (fun v6 _ => ?_)
    refine hj_istore_n (lv' := [(0, .ref a0), (1, .int a1), (2, .int t2), (3, .int v6)]) dX12_weighsAt_32 (by decide) [1, 2, 3, 0] rfl ?_
    refine hj_aload_n 0 dX12_weighsAt_33 rfl ?_
    refine hj_getR flX12_49 dX12_weighsAt_34 (fun t7 _ => ?_)
    refine hj_iload_n 3 dX12_weighsAt_37 rfl ?_
    refine hj_iald dX12_weighsAt_38 (fun t8 _ => ?_)
    refine hj_istore (lv' := [(0, .ref a0), (1, .int a1), (2, .int t2), (3, .int v6), (4, .int t8)]) dX12_weighsAt_39 (by decide) [1, 2, 3, 4, 0] rfl ?_
    refine hj_aload_n 0 dX12_weighsAt_41 rfl ?_
    refine hj_getR flX12_70 dX12_weighsAt_42 (fun t9 _ => ?_)
    refine hj_iload_n 3 dX12_weighsAt_45 rfl ?_
    refine hj_iald dX12_weighsAt_46 (fun t10 _ => ?_)
    refine hj_aload_n 0 dX12_weighsAt_47 rfl ?_
    refine hj_getR flX12_73 dX12_weighsAt_48 (fun t11 _ => ?_)
    refine hj_iload_n 3 dX12_weighsAt_51 rfl ?_
    refine hj_iald dX12_weighsAt_52 (fun t12 _ => ?_)
    refine hj_icmp_ne 59 dX12_weighsAt_53 (by decide) (fun _ => ?_) (fun _ => ?_)
    · refine hj_aload_n 0 dX12_weighsAt_59 rfl ?_
      refine hj_getR flX12_101 dX12_weighsAt_60 (fun t13 _ => ?_)
      refine hj_iconst (0 : Int32) dX12_weighsAt_63 (by decide) ?_
      refine hj_aload_n 0 dX12_weighsAt_64 rfl ?_
      refine hj_getR flX12_46 dX12_weighsAt_65 (fun t14 _ => ?_)
      refine hj_iload_n 3 dX12_weighsAt_68 rfl ?_
      refine hj_iald dX12_weighsAt_69 (fun t15 _ => ?_)
      refine hj_iast dX12_weighsAt_70 (fun σ16 _ => ?_)
      refine hj_aload_n 0 dX12_weighsAt_71 rfl ?_
      refine hj_getR flX12_101 dX12_weighsAt_72 (fun t17 _ => ?_)
      refine hj_iconst (1 : Int32) dX12_weighsAt_75 (by decide) ?_
      refine hj_iload 4 dX12_weighsAt_76 rfl ?_
      refine hj_iast dX12_weighsAt_78 (fun σ18 _ => ?_)
      refine hj_aload_n 0 dX12_weighsAt_79 rfl ?_
      refine hj_getR flX12_101 dX12_weighsAt_80 (fun t19 _ => ?_)
      refine hj_iconst (2 : Int32) dX12_weighsAt_83 (by decide) ?_
      refine hj_iload_n 1 dX12_weighsAt_84 rfl ?_
      refine hj_iast dX12_weighsAt_85 (fun σ20 _ => ?_)
      refine hj_aload_n 0 dX12_weighsAt_86 rfl ?_
      refine hj_getR flX12_101 dX12_weighsAt_87 (fun t21 _ => ?_)
      refine hj_iconst (3 : Int32) dX12_weighsAt_90 (by decide) ?_
      refine hj_aload_n 0 dX12_weighsAt_91 rfl ?_
      refine hj_getR flX12_110 dX12_weighsAt_92 (fun t22 _ => ?_)
      refine hj_bipush (6 : Int32) dX12_weighsAt_95 (by decide) ?_
      refine hj_iload_n 1 dX12_weighsAt_97 rfl ?_
      refine hj_iadd dX12_weighsAt_98 ?_
      refine hj_iald dX12_weighsAt_99 (fun t23 _ => ?_)
      refine hj_iast dX12_weighsAt_100 (fun σ24 _ => ?_)
      refine hj_aload_n 0 dX12_weighsAt_101 rfl ?_
      refine hj_getR flX12_101 dX12_weighsAt_102 (fun t25 _ => ?_)
      refine hj_iconst (4 : Int32) dX12_weighsAt_105 (by decide) ?_
      refine hj_aload_n 0 dX12_weighsAt_106 rfl ?_
      refine hj_getR flX12_110 dX12_weighsAt_107 (fun t26 _ => ?_)
      refine hj_bipush (18 : Int32) dX12_weighsAt_110 (by decide) ?_
      refine hj_iald dX12_weighsAt_112 (fun t27 _ => ?_)
      refine hj_iconst (1 : Int32) dX12_weighsAt_113 (by decide) ?_
      refine hj_isub dX12_weighsAt_114 ?_
      refine hj_iload_n 1 dX12_weighsAt_115 rfl ?_
      refine hj_isub dX12_weighsAt_116 ?_
      refine hj_iast dX12_weighsAt_117 (fun σ28 _ => ?_)
      refine hj_aload_n 0 dX12_weighsAt_118 rfl ?_
      refine hj_iload_n 3 dX12_weighsAt_119 rfl ?_
      refine hj_callV (ci := 12) (M' := mX12_tellsBy) (h' := 2) (As := [.int v6]) mfX12_tellsBy mvX12_tellsBy ⟨_, _, rfl⟩ mlX12_308 dX12_weighsAt_120 (kX12_tellsBy G _ _ _) (fun _ hr => cX12_tellsByk hr) ⟨Nat.le_of_ble_eq_true rfl, Nat.le_of_ble_eq_true rfl⟩ ⟨Nat.le_refl _, Nat.le_refl _⟩ rfl (Nat.le_of_ble_eq_true rfl) (fun r30 σ29 _ => ?_)
      refine hj_istore (lv' := [(0, .ref a0), (1, .int a1), (2, .int t2), (3, .int v6), (4, .int t8), (5, .int r30)]) dX12_weighsAt_123 (by decide) [1, 2, 3, 4, 5, 0] rfl ?_
      refine hj_iload 5 dX12_weighsAt_125 rfl ?_
      refine hj_iconst (1 : Int32) dX12_weighsAt_127 (by decide) ?_
      refine hj_icmp_ge 135 dX12_weighsAt_128 (by decide) (fun _ => ?_) (fun _ => ?_)
      · refine hj_iload 5 dX12_weighsAt_135 rfl ?_
        refine hj_bipush (99 : Int32) dX12_weighsAt_137 (by decide) ?_
        refine hj_icmp_le 147 dX12_weighsAt_139 (by decide) (fun _ => ?_) (fun _ => ?_)
        · refine hj_iload 5 dX12_weighsAt_147 rfl ?_
          exact hj_iret dX12_weighsAt_149 rfl rfl (Nat.le_refl _)
        · refine hj_bipush (99 : Int32) dX12_weighsAt_142 (by decide) ?_
          refine hj_goto 149 dX12_weighsAt_144 (by decide) ?_
          exact hj_iret dX12_weighsAt_149 rfl rfl (Nat.le_refl _)
      · refine hj_iconst (1 : Int32) dX12_weighsAt_131 (by decide) ?_
        refine hj_goto 149 dX12_weighsAt_132 (by decide) ?_
        exact hj_iret dX12_weighsAt_149 rfl rfl (Nat.le_refl _)
    · refine hj_iload 4 dX12_weighsAt_56 rfl ?_
      exact hj_iret dX12_weighsAt_58 rfl rfl (Nat.le_refl _)
  · refine hj_aload_n 0 dX12_weighsAt_16 rfl ?_
    refine hj_getR flX12_113 dX12_weighsAt_17 (fun t31 _ => ?_)
    refine hj_iload_n 2 dX12_weighsAt_20 rfl ?_
    refine hj_iald dX12_weighsAt_21 (fun t32 _ => ?_)
    exact hj_iret dX12_weighsAt_22 rfl rfl (Nat.le_refl _)
theorem cX12_weighsAtk {a0 : Nat} {a1 : Int32} {σ : Sto} {r : Int32 × Sto} (h : fX12_weighsAt a0 a1 σ = some r) : ∃ fs, hs_o σ 12 a0 = some fs := (ck_of h).1
def fX12_fillsLoads_b213 (K15 : Nat → Int64 → Int64 → Int32 → Sto → Option (Unit × Sto)) (x0 : Nat) (x1 : Int64) (x3 : Int64) (x5 : Int32) (σ : Sto) : Option (Unit × Sto) := ((gR σ 12 x0 53).bind fun t38 => ((sL σ 3 t38 x5 x1).bind fun σ39 => ((gR σ39 12 x0 54).bind fun t40 => ((sL σ39 3 t40 x5 x3).bind fun σ41 => (K15 x0 x1 x3 (x5 + (-1 : Int32)) σ41)))))
set_option maxHeartbeats 2000000 in
theorem sX12_fillsLoads_b213 {G : GP} {n0 : Nat} {K15 : Nat → Int64 → Int64 → Int32 → Sto → Option (Unit × Sto)} (hK15 : ∀ (x0 : Nat) (x1 : Int64) (x3 : Int64) (x5 : Int32) (σ : Sto), Sim G mX12_fillsLoads 4 0 0 n0 jV 0 0 15 [(0, .ref x0), (1, .long x1), (3, .long x3), (5, .int x5)] [] σ (K15 x0 x1 x3 x5 σ)) : ∀ (x0 : Nat) (x1 : Int64) (x3 : Int64) (x5 : Int32) (σ : Sto), Sim G mX12_fillsLoads 4 0 0 n0 jV 0 0 213 [(0, .ref x0), (1, .long x1), (3, .long x3), (5, .int x5)] [] σ (fX12_fillsLoads_b213 K15 x0 x1 x3 x5 σ) := by
  intro x0 x1 x3 x5 σ
  unfold fX12_fillsLoads_b213
  refine hj_aload_n 0 dX12_fillsLoads_213 rfl ?_
  refine hj_getR flX12_116 dX12_fillsLoads_214 (fun t38 _ => ?_)
  refine hj_iload 3 dX12_fillsLoads_217 rfl ?_
  refine hj_lload_n 1 dX12_fillsLoads_219 rfl ?_
  refine hj_last dX12_fillsLoads_220 (fun σ39 _ => ?_)
  refine hj_aload_n 0 dX12_fillsLoads_221 rfl ?_
  refine hj_getR flX12_119 dX12_fillsLoads_222 (fun t40 _ => ?_)
  refine hj_iload 3 dX12_fillsLoads_225 rfl ?_
  refine hj_lload_n 2 dX12_fillsLoads_227 rfl ?_
  refine hj_last dX12_fillsLoads_228 (fun σ41 _ => ?_)
  refine hj_iinc (lv' := [(0, .ref x0), (1, .long x1), (3, .long x3), (5, .int (x5 + (-1 : Int32)))]) 3 (-1 : Int32) dX12_fillsLoads_229 rfl (by decide) (by decide) [1, 2, 3, 0] rfl ?_
  refine hj_goto 15 dX12_fillsLoads_232 (by decide) ?_
  refine hj_loc (lv' := [(0, .ref x0), (1, .long x1), (3, .long x3), (5, .int (x5 + (-1 : Int32)))]) [0, 1, 2, 3] rfl ?_
  exact hK15 _ _ _ _ _
def fX12_fillsLoads_b162 (K15 : Nat → Int64 → Int64 → Int32 → Sto → Option (Unit × Sto)) (x0 : Nat) (x1 : Int64) (x3 : Int64) (x5 : Int32) (σ : Sto) : Option (Unit × Sto) := ((gI σ 12 x0 50).bind fun t20 => ((gR σ 12 x0 48).bind fun t21 => ((aI σ 2 t21 x5).bind fun t22 => (if t20 = t22 then ((gI σ 12 x0 49).bind fun t23 => (lt ((x1 + ((t23.toInt64)))) fun v24 => ((gI σ 12 x0 49).bind fun t25 => ((gR σ 12 x0 48).bind fun t26 => ((aI σ 2 t26 ((((6 : Int32)) + x5))).bind fun t27 => ((gI σ 12 x0 51).bind fun t28 => (lt ((x3 + ((((((2 : Int64)) * ((t25.toInt64)))) * ((((t27 + t28)).toInt64)))))) fun v29 => (fX12_fillsLoads_b213 K15 x0 v24 v29 x5 σ)))))))) else (fX12_fillsLoads_b213 K15 x0 x1 x3 x5 σ)))))
set_option maxHeartbeats 2000000 in
theorem sX12_fillsLoads_b162 {G : GP} {n0 : Nat} {K15 : Nat → Int64 → Int64 → Int32 → Sto → Option (Unit × Sto)} (hK15 : ∀ (x0 : Nat) (x1 : Int64) (x3 : Int64) (x5 : Int32) (σ : Sto), Sim G mX12_fillsLoads 4 0 0 n0 jV 0 0 15 [(0, .ref x0), (1, .long x1), (3, .long x3), (5, .int x5)] [] σ (K15 x0 x1 x3 x5 σ)) : ∀ (x0 : Nat) (x1 : Int64) (x3 : Int64) (x5 : Int32) (σ : Sto), Sim G mX12_fillsLoads 4 0 0 n0 jV 0 0 162 [(0, .ref x0), (1, .long x1), (3, .long x3), (5, .int x5)] [] σ (fX12_fillsLoads_b162 K15 x0 x1 x3 x5 σ) := by
  intro x0 x1 x3 x5 σ
  unfold fX12_fillsLoads_b162
  refine hj_aload_n 0 dX12_fillsLoads_162 rfl ?_
  refine hj_getI flX12_305 dX12_fillsLoads_163 (fun t20 _ => ?_)
  refine hj_aload_n 0 dX12_fillsLoads_166 rfl ?_
  refine hj_getR flX12_110 dX12_fillsLoads_167 (fun t21 _ => ?_)
  refine hj_iload 3 dX12_fillsLoads_170 rfl ?_
  refine hj_iald dX12_fillsLoads_172 (fun t22 _ => ?_)
  refine hj_icmp_ne 213 dX12_fillsLoads_173 (by decide) (fun _ => ?_) (fun _ => ?_)
  · refine hj_loc (lv' := [(0, .ref x0), (1, .long x1), (3, .long x3), (5, .int x5)]) [0, 1, 2, 3] rfl ?_
    exact sX12_fillsLoads_b213 hK15 _ _ _ _ _
  · refine hj_lload_n 1 dX12_fillsLoads_176 rfl ?_
    refine hj_aload_n 0 dX12_fillsLoads_177 rfl ?_
    refine hj_getI flX12_302 dX12_fillsLoads_178 (fun t23 _ => ?_)
    refine hj_i2l dX12_fillsLoads_181 ?_
    refine hj_ladd dX12_fillsLoads_182 ?_
    refine hj_ltJ (fun v24 _ => ?_)
    refine hj_lstore_n (lv' := [(0, .ref x0), (1, .long v24), (3, .long x3), (5, .int x5)]) dX12_fillsLoads_183 (by decide) [1, 0, 2, 3] rfl ?_
    refine hj_lload_n 2 dX12_fillsLoads_184 rfl ?_
    refine hj_ldc2 (2 : Int64) kcX12_320 dX12_fillsLoads_185 ?_
    refine hj_aload_n 0 dX12_fillsLoads_188 rfl ?_
    refine hj_getI flX12_302 dX12_fillsLoads_189 (fun t25 _ => ?_)
    refine hj_i2l dX12_fillsLoads_192 ?_
    refine hj_lmul dX12_fillsLoads_193 ?_
    refine hj_aload_n 0 dX12_fillsLoads_194 rfl ?_
    refine hj_getR flX12_110 dX12_fillsLoads_195 (fun t26 _ => ?_)
    refine hj_bipush (6 : Int32) dX12_fillsLoads_198 (by decide) ?_
    refine hj_iload 3 dX12_fillsLoads_200 rfl ?_
    refine hj_iadd dX12_fillsLoads_202 ?_
    refine hj_iald dX12_fillsLoads_203 (fun t27 _ => ?_)
    refine hj_aload_n 0 dX12_fillsLoads_204 rfl ?_
    refine hj_getI flX12_322 dX12_fillsLoads_205 (fun t28 _ => ?_)
    refine hj_iadd dX12_fillsLoads_208 ?_
    refine hj_i2l dX12_fillsLoads_209 ?_
    refine hj_lmul dX12_fillsLoads_210 ?_
    refine hj_ladd dX12_fillsLoads_211 ?_
    refine hj_ltJ (fun v29 _ => ?_)
    refine hj_lstore_n (lv' := [(0, .ref x0), (1, .long v24), (3, .long v29), (5, .int x5)]) dX12_fillsLoads_212 (by decide) [1, 2, 0, 3] rfl ?_
    refine hj_loc (lv' := [(0, .ref x0), (1, .long v24), (3, .long v29), (5, .int x5)]) [0, 1, 2, 3] rfl ?_
    exact sX12_fillsLoads_b213 hK15 _ _ _ _ _
def fX12_fillsLoads_b156 (K15 : Nat → Int64 → Int64 → Int32 → Sto → Option (Unit × Sto)) (K64 : Nat → Int64 → Int64 → Int32 → Int32 → Sto → Option (Unit × Sto)) (x0 : Nat) (x1 : Int64) (x3 : Int64) (x5 : Int32) (x7 : Int32) (σ : Sto) : Option (Unit × Sto) := (K64 x0 x1 x3 x5 (x7 + (1 : Int32)) σ)
set_option maxHeartbeats 2000000 in
theorem sX12_fillsLoads_b156 {G : GP} {n0 : Nat} {K15 : Nat → Int64 → Int64 → Int32 → Sto → Option (Unit × Sto)} (hK15 : ∀ (x0 : Nat) (x1 : Int64) (x3 : Int64) (x5 : Int32) (σ : Sto), Sim G mX12_fillsLoads 4 0 0 n0 jV 0 0 15 [(0, .ref x0), (1, .long x1), (3, .long x3), (5, .int x5)] [] σ (K15 x0 x1 x3 x5 σ)) {K64 : Nat → Int64 → Int64 → Int32 → Int32 → Sto → Option (Unit × Sto)} (hK64 : ∀ (x0 : Nat) (x1 : Int64) (x3 : Int64) (x5 : Int32) (x7 : Int32) (σ : Sto), Sim G mX12_fillsLoads 4 0 0 n0 jV 0 0 64 [(0, .ref x0), (1, .long x1), (3, .long x3), (5, .int x5), (7, .int x7)] [] σ (K64 x0 x1 x3 x5 x7 σ)) : ∀ (x0 : Nat) (x1 : Int64) (x3 : Int64) (x5 : Int32) (x7 : Int32) (σ : Sto), Sim G mX12_fillsLoads 4 0 0 n0 jV 0 0 156 [(0, .ref x0), (1, .long x1), (3, .long x3), (5, .int x5), (7, .int x7)] [] σ (fX12_fillsLoads_b156 K15 K64 x0 x1 x3 x5 x7 σ) := by
  intro x0 x1 x3 x5 x7 σ
  unfold fX12_fillsLoads_b156
  refine hj_iinc (lv' := [(0, .ref x0), (1, .long x1), (3, .long x3), (5, .int x5), (7, .int (x7 + (1 : Int32)))]) 4 (1 : Int32) dX12_fillsLoads_156 rfl (by decide) (by decide) [1, 2, 3, 4, 0] rfl ?_
  refine hj_goto 64 dX12_fillsLoads_159 (by decide) ?_
  refine hj_loc (lv' := [(0, .ref x0), (1, .long x1), (3, .long x3), (5, .int x5), (7, .int (x7 + (1 : Int32)))]) [0, 1, 2, 3, 4] rfl ?_
  exact hK64 _ _ _ _ _ _
def fX12_fillsLoads_b64 (K15 : Nat → Int64 → Int64 → Int32 → Sto → Option (Unit × Sto)) : Nat → Nat → Int64 → Int64 → Int32 → Int32 → Sto → Option (Unit × Sto)
  | 0, _, _, _, _, _, _ => none
  | n + 1, x0, x1, x3, x5, x7, σ => ((gR σ 12 x0 26).bind fun t1 => ((gI σ 12 x0 18).bind fun t2 => ((aI σ 2 t1 t2).bind fun t3 => (if t3 ≤ x7 then (fX12_fillsLoads_b162 K15 x0 x1 x3 x5 σ) else ((gI σ 12 x0 18).bind fun t4 => (lt ((((((6 : Int32)) * t4)) + x7)) fun v5 => ((gR σ 12 x0 28).bind fun t6 => ((aI σ 2 t6 v5).bind fun t7 => ((gR σ 12 x0 48).bind fun t8 => ((aI σ 2 t8 x5).bind fun t9 => (if t7 = t9 then ((gR σ 12 x0 27).bind fun t10 => ((aI σ 2 t10 v5).bind fun t11 => (lt ((x1 + ((t11.toInt64)))) fun v12 => ((gR σ 12 x0 27).bind fun t13 => ((aI σ 2 t13 v5).bind fun t14 => ((gR σ 12 x0 48).bind fun t15 => ((aI σ 2 t15 ((((6 : Int32)) + x5))).bind fun t16 => ((gR σ 12 x0 29).bind fun t17 => ((aI σ 2 t17 v5).bind fun t18 => (lt ((x3 + ((((((2 : Int64)) * ((t14.toInt64)))) * ((((t16 + t18)).toInt64)))))) fun v19 => (fX12_fillsLoads_b156 K15 (fX12_fillsLoads_b64 K15 n) x0 v12 v19 x5 x7 σ))))))))))) else (fX12_fillsLoads_b156 K15 (fX12_fillsLoads_b64 K15 n) x0 x1 x3 x5 x7 σ))))))))))))
set_option maxHeartbeats 2000000 in
theorem sX12_fillsLoads_b64 {G : GP} {n0 : Nat} {K15 : Nat → Int64 → Int64 → Int32 → Sto → Option (Unit × Sto)} (hK15 : ∀ (x0 : Nat) (x1 : Int64) (x3 : Int64) (x5 : Int32) (σ : Sto), Sim G mX12_fillsLoads 4 0 0 n0 jV 0 0 15 [(0, .ref x0), (1, .long x1), (3, .long x3), (5, .int x5)] [] σ (K15 x0 x1 x3 x5 σ)) : ∀ (n : Nat) (x0 : Nat) (x1 : Int64) (x3 : Int64) (x5 : Int32) (x7 : Int32) (σ : Sto), Sim G mX12_fillsLoads 4 0 0 n0 jV 0 0 64 [(0, .ref x0), (1, .long x1), (3, .long x3), (5, .int x5), (7, .int x7)] [] σ (fX12_fillsLoads_b64 K15 n x0 x1 x3 x5 x7 σ) := by
  intro n
  induction n with
  | zero => intros; rw [fX12_fillsLoads_b64]; exact hj_none
  | succ n ih =>
    intro x0 x1 x3 x5 x7 σ
    rw [fX12_fillsLoads_b64]
    refine hj_iload 4 dX12_fillsLoads_64 rfl ?_
    refine hj_aload_n 0 dX12_fillsLoads_66 rfl ?_
    refine hj_getR flX12_55 dX12_fillsLoads_67 (fun t1 _ => ?_)
    refine hj_aload_n 0 dX12_fillsLoads_70 rfl ?_
    refine hj_getI flX12_221 dX12_fillsLoads_71 (fun t2 _ => ?_)
    refine hj_iald dX12_fillsLoads_74 (fun t3 _ => ?_)
    refine hj_icmp_ge 162 dX12_fillsLoads_75 (by decide) (fun _ => ?_) (fun _ => ?_)
    · refine hj_loc (lv' := [(0, .ref x0), (1, .long x1), (3, .long x3), (5, .int x5)]) [0, 1, 2, 3] rfl ?_
      exact sX12_fillsLoads_b162 hK15 _ _ _ _ _
    · refine hj_bipush (6 : Int32) dX12_fillsLoads_78 (by decide) ?_
      refine hj_aload_n 0 dX12_fillsLoads_80 rfl ?_
      refine hj_getI flX12_221 dX12_fillsLoads_81 (fun t4 _ => ?_)
      refine hj_imul dX12_fillsLoads_84 ?_
      refine hj_iload 4 dX12_fillsLoads_85 rfl ?_
      refine hj_iadd dX12_fillsLoads_87 ?_
      refine hj_ltI (fun v5 _ => ?_)
      refine hj_istore (lv' := [(0, .ref x0), (1, .long x1), (3, .long x3), (5, .int x5), (7, .int x7), (8, .int v5)]) dX12_fillsLoads_88 (by decide) [1, 2, 3, 4, 5, 0] rfl ?_
      refine hj_aload_n 0 dX12_fillsLoads_90 rfl ?_
      refine hj_getR flX12_61 dX12_fillsLoads_91 (fun t6 _ => ?_)
      refine hj_iload 5 dX12_fillsLoads_94 rfl ?_
      refine hj_iald dX12_fillsLoads_96 (fun t7 _ => ?_)
      refine hj_aload_n 0 dX12_fillsLoads_97 rfl ?_
      refine hj_getR flX12_110 dX12_fillsLoads_98 (fun t8 _ => ?_)
      refine hj_iload 3 dX12_fillsLoads_101 rfl ?_
      refine hj_iald dX12_fillsLoads_103 (fun t9 _ => ?_)
      refine hj_icmp_eq 110 dX12_fillsLoads_104 (by decide) (fun _ => ?_) (fun _ => ?_)
      · refine hj_lload_n 1 dX12_fillsLoads_110 rfl ?_
        refine hj_aload_n 0 dX12_fillsLoads_111 rfl ?_
        refine hj_getR flX12_58 dX12_fillsLoads_112 (fun t10 _ => ?_)
        refine hj_iload 5 dX12_fillsLoads_115 rfl ?_
        refine hj_iald dX12_fillsLoads_117 (fun t11 _ => ?_)
        refine hj_i2l dX12_fillsLoads_118 ?_
        refine hj_ladd dX12_fillsLoads_119 ?_
        refine hj_ltJ (fun v12 _ => ?_)
        refine hj_lstore_n (lv' := [(0, .ref x0), (1, .long v12), (3, .long x3), (5, .int x5), (7, .int x7), (8, .int v5)]) dX12_fillsLoads_120 (by decide) [1, 0, 2, 3, 4, 5] rfl ?_
        refine hj_lload_n 2 dX12_fillsLoads_121 rfl ?_
        refine hj_ldc2 (2 : Int64) kcX12_320 dX12_fillsLoads_122 ?_
        refine hj_aload_n 0 dX12_fillsLoads_125 rfl ?_
        refine hj_getR flX12_58 dX12_fillsLoads_126 (fun t13 _ => ?_)
        refine hj_iload 5 dX12_fillsLoads_129 rfl ?_
        refine hj_iald dX12_fillsLoads_131 (fun t14 _ => ?_)
        refine hj_i2l dX12_fillsLoads_132 ?_
        refine hj_lmul dX12_fillsLoads_133 ?_
        refine hj_aload_n 0 dX12_fillsLoads_134 rfl ?_
        refine hj_getR flX12_110 dX12_fillsLoads_135 (fun t15 _ => ?_)
        refine hj_bipush (6 : Int32) dX12_fillsLoads_138 (by decide) ?_
        refine hj_iload 3 dX12_fillsLoads_140 rfl ?_
        refine hj_iadd dX12_fillsLoads_142 ?_
        refine hj_iald dX12_fillsLoads_143 (fun t16 _ => ?_)
        refine hj_aload_n 0 dX12_fillsLoads_144 rfl ?_
        refine hj_getR flX12_64 dX12_fillsLoads_145 (fun t17 _ => ?_)
        refine hj_iload 5 dX12_fillsLoads_148 rfl ?_
        refine hj_iald dX12_fillsLoads_150 (fun t18 _ => ?_)
        refine hj_iadd dX12_fillsLoads_151 ?_
        refine hj_i2l dX12_fillsLoads_152 ?_
        refine hj_lmul dX12_fillsLoads_153 ?_
        refine hj_ladd dX12_fillsLoads_154 ?_
        refine hj_ltJ (fun v19 _ => ?_)
        refine hj_lstore_n (lv' := [(0, .ref x0), (1, .long v12), (3, .long v19), (5, .int x5), (7, .int x7), (8, .int v5)]) dX12_fillsLoads_155 (by decide) [1, 2, 0, 3, 4, 5] rfl ?_
        refine hj_loc (lv' := [(0, .ref x0), (1, .long v12), (3, .long v19), (5, .int x5), (7, .int x7)]) [0, 1, 2, 3, 4] rfl ?_
        exact sX12_fillsLoads_b156 hK15 ih _ _ _ _ _ _
      · refine hj_goto 156 dX12_fillsLoads_107 (by decide) ?_
        refine hj_loc (lv' := [(0, .ref x0), (1, .long x1), (3, .long x3), (5, .int x5), (7, .int x7)]) [0, 1, 2, 3, 4] rfl ?_
        exact sX12_fillsLoads_b156 hK15 ih _ _ _ _ _ _
def fX12_fillsLoads_b15 : Nat → Nat → Int64 → Int64 → Int32 → Sto → Option (Unit × Sto)
  | 0, _, _, _, _, _ => none
  | n + 1, x0, x1, x3, x5, σ => (if x5 < 0 then (some ((), σ)) else (cb (fX12_weighsAt x0 x5 σ) fun r31 σ30 => (lt ((x1 + ((r31.toInt64)))) fun v32 => ((gR σ30 12 x0 48).bind fun t33 => ((aI σ30 2 t33 ((((6 : Int32)) + x5))).bind fun t34 => (cb (fX12_longAt x0 x5 σ30) fun r36 σ35 => (lt ((x3 + ((((r31.toInt64)) * ((((((((2 : Int32)) * t34)) + r36)).toInt64)))))) fun v37 => (fX12_fillsLoads_b64 (fX12_fillsLoads_b15 n) FU x0 v32 v37 x5 ((0 : Int32)) σ35))))))))
set_option maxHeartbeats 2000000 in
theorem sX12_fillsLoads_b15 {G : GP} {n0 : Nat} : ∀ (n : Nat) (x0 : Nat) (x1 : Int64) (x3 : Int64) (x5 : Int32) (σ : Sto), Sim G mX12_fillsLoads 4 0 0 n0 jV 0 0 15 [(0, .ref x0), (1, .long x1), (3, .long x3), (5, .int x5)] [] σ (fX12_fillsLoads_b15 n x0 x1 x3 x5 σ) := by
  intro n
  induction n with
  | zero => intros; rw [fX12_fillsLoads_b15]; exact hj_none
  | succ n ih =>
    intro x0 x1 x3 x5 σ
    rw [fX12_fillsLoads_b15]
    refine hj_iload 3 dX12_fillsLoads_15 rfl ?_
    refine hj_if_lt 235 dX12_fillsLoads_17 (by decide) (fun _ => ?_) (fun _ => ?_)
    · exact hj_vret dX12_fillsLoads_235 rfl rfl (Nat.le_refl _)
    · refine hj_aload_n 0 dX12_fillsLoads_20 rfl ?_
      refine hj_iload 3 dX12_fillsLoads_21 rfl ?_
      refine hj_callV (ci := 12) (M' := mX12_weighsAt) (h' := 3) (As := [.int x5]) mfX12_weighsAt mvX12_weighsAt ⟨_, _, rfl⟩ mlX12_314 dX12_fillsLoads_23 (kX12_weighsAt G _ _ _) (fun _ hr => cX12_weighsAtk hr) ⟨Nat.le_of_ble_eq_true rfl, Nat.le_of_ble_eq_true rfl⟩ ⟨Nat.le_refl _, Nat.le_refl _⟩ rfl (Nat.le_of_ble_eq_true rfl) (fun r31 σ30 _ => ?_)
      refine hj_istore (lv' := [(0, .ref x0), (1, .long x1), (3, .long x3), (5, .int x5), (6, .int r31)]) dX12_fillsLoads_26 (by decide) [1, 2, 3, 4, 0] rfl ?_
      refine hj_lload_n 1 dX12_fillsLoads_28 rfl ?_
      refine hj_iload 4 dX12_fillsLoads_29 rfl ?_
      refine hj_i2l dX12_fillsLoads_31 ?_
      refine hj_ladd dX12_fillsLoads_32 ?_
      refine hj_ltJ (fun v32 _ => ?_)
      refine hj_lstore_n (lv' := [(0, .ref x0), (1, .long v32), (3, .long x3), (5, .int x5), (6, .int r31)]) dX12_fillsLoads_33 (by decide) [1, 0, 2, 3, 4] rfl ?_
      refine hj_lload_n 2 dX12_fillsLoads_34 rfl ?_
      refine hj_iload 4 dX12_fillsLoads_35 rfl ?_
      refine hj_i2l dX12_fillsLoads_37 ?_
      refine hj_iconst (2 : Int32) dX12_fillsLoads_38 (by decide) ?_
      refine hj_aload_n 0 dX12_fillsLoads_39 rfl ?_
      refine hj_getR flX12_110 dX12_fillsLoads_40 (fun t33 _ => ?_)
      refine hj_bipush (6 : Int32) dX12_fillsLoads_43 (by decide) ?_
      refine hj_iload 3 dX12_fillsLoads_45 rfl ?_
      refine hj_iadd dX12_fillsLoads_47 ?_
      refine hj_iald dX12_fillsLoads_48 (fun t34 _ => ?_)
      refine hj_imul dX12_fillsLoads_49 ?_
      refine hj_aload_n 0 dX12_fillsLoads_50 rfl ?_
      refine hj_iload 3 dX12_fillsLoads_51 rfl ?_
      refine hj_callV (ci := 12) (M' := mX12_longAt) (h' := 1) (As := [.int x5]) mfX12_longAt mvX12_longAt ⟨_, _, rfl⟩ mlX12_317 dX12_fillsLoads_53 (kX12_longAt G _ _ _) (fun _ hr => cX12_longAtk hr) ⟨Nat.le_of_ble_eq_true rfl, Nat.le_of_ble_eq_true rfl⟩ ⟨Nat.le_refl _, Nat.le_refl _⟩ rfl (Nat.le_of_ble_eq_true rfl) (fun r36 σ35 _ => ?_)
      refine hj_iadd dX12_fillsLoads_56 ?_
      refine hj_i2l dX12_fillsLoads_57 ?_
      refine hj_lmul dX12_fillsLoads_58 ?_
      refine hj_ladd dX12_fillsLoads_59 ?_
      refine hj_ltJ (fun v37 _ => ?_)
      refine hj_lstore_n (lv' := [(0, .ref x0), (1, .long v32), (3, .long v37), (5, .int x5), (6, .int r31)]) dX12_fillsLoads_60 (by decide) [1, 2, 0, 3, 4] rfl ?_
      refine hj_iconst (0 : Int32) dX12_fillsLoads_61 (by decide) ?_
      refine hj_istore (lv' := [(0, .ref x0), (1, .long v32), (3, .long v37), (5, .int x5), (6, .int r31), (7, .int (0 : Int32))]) dX12_fillsLoads_62 (by decide) [1, 2, 3, 4, 5, 0] rfl ?_
      refine hj_loc (lv' := [(0, .ref x0), (1, .long v32), (3, .long v37), (5, .int x5), (7, .int (0 : Int32))]) [0, 1, 2, 3, 5] rfl ?_
      exact sX12_fillsLoads_b64 ih _ _ _ _ _ _ _
def fX12_fillsLoads (a0 : Nat) (σ : Sto) : Option (Unit × Sto) := ck σ 12 a0 ((gR σ 12 a0 48).bind fun t42 => ((aI σ 2 t42 ((18 : Int32))).bind fun t43 => (lt ((t43 - ((1 : Int32)))) fun v44 => (fX12_fillsLoads_b15 FU a0 ((0 : Int64)) ((0 : Int64)) v44 σ))))
set_option maxHeartbeats 2000000 in
theorem kX12_fillsLoads (G : GP) (a0 : Nat) (σ : Sto) : Me G mX12_fillsLoads 4 0 0 jV [.ref a0] σ (fX12_fillsLoads a0 σ) := by
  refine hs_me (lv := [(0, .ref a0)]) (plainFor_of_name (by decide +kernel)) (Nat.le_of_ble_eq_true rfl) rfl ?_
  unfold fX12_fillsLoads
  refine hj_ck ?_
  refine hj_lconst (0 : Int64) dX12_fillsLoads_0 (by decide) ?_
  refine hj_lstore_n (lv' := [(0, .ref a0), (1, .long (0 : Int64))]) dX12_fillsLoads_1 (by decide) [1, 0] rfl ?_
  refine hj_lconst (0 : Int64) dX12_fillsLoads_2 (by decide) ?_
  refine hj_lstore_n (lv' := [(0, .ref a0), (1, .long (0 : Int64)), (3, .long (0 : Int64))]) dX12_fillsLoads_3 (by decide) [1, 2, 0] rfl ?_
  refine hj_aload_n 0 dX12_fillsLoads_4 rfl ?_
  refine hj_getR flX12_110 dX12_fillsLoads_5 (fun t42 _ => ?_)
  refine hj_bipush (18 : Int32) dX12_fillsLoads_8 (by decide) ?_
  refine hj_iald dX12_fillsLoads_10 (fun t43 _ => ?_)
  refine hj_iconst (1 : Int32) dX12_fillsLoads_11 (by decide) ?_
  refine hj_isub dX12_fillsLoads_12 ?_
  refine hj_ltI (fun v44 _ => ?_)
  refine hj_istore (lv' := [(0, .ref a0), (1, .long (0 : Int64)), (3, .long (0 : Int64)), (5, .int v44)]) dX12_fillsLoads_13 (by decide) [1, 2, 3, 0] rfl ?_
  refine hj_loc (lv' := [(0, .ref a0), (1, .long (0 : Int64)), (3, .long (0 : Int64)), (5, .int v44)]) [0, 1, 2, 3] rfl ?_
  exact sX12_fillsLoads_b15 _ _ _ _ _ _
theorem cX12_fillsLoadsk {a0 : Nat} {σ : Sto} {r : Unit × Sto} (h : fX12_fillsLoads a0 σ = some r) : ∃ fs, hs_o σ 12 a0 = some fs := (ck_of h).1
def fX12_leftBelow (a0 : Nat) (a1 : Int32) (σ : Sto) : Option (Int32 × Sto) := ck σ 12 a0 (if a1 = 0 then ((gR σ 12 a0 25).bind fun t3 => ((gI σ 12 a0 18).bind fun t4 => ((aI σ 2 t3 t4).bind fun t5 => (some ((-t5), σ))))) else ((gR σ 12 a0 48).bind fun t1 => ((aI σ 2 t1 ((((5 : Int32)) + a1))).bind fun t2 => (some (t2, σ)))))
set_option maxHeartbeats 2000000 in
theorem kX12_leftBelow (G : GP) (a0 : Nat) (a1 : Int32) (σ : Sto) : Me G mX12_leftBelow 1 0 0 jI [.ref a0, .int a1] σ (fX12_leftBelow a0 a1 σ) := by
  refine hs_me (lv := [(0, .ref a0), (1, .int a1)]) (plainFor_of_name (by decide +kernel)) (Nat.le_of_ble_eq_true rfl) rfl ?_
  unfold fX12_leftBelow
  refine hj_ck ?_
  refine hj_iload_n 1 dX12_leftBelow_0 rfl ?_
  refine hj_if_ne 17 dX12_leftBelow_1 (by decide) (fun _ => ?_) (fun _ => ?_)
  · refine hj_aload_n 0 dX12_leftBelow_17 rfl ?_
    refine hj_getR flX12_110 dX12_leftBelow_18 (fun t1 _ => ?_)
    refine hj_iconst (5 : Int32) dX12_leftBelow_21 (by decide) ?_
    refine hj_iload_n 1 dX12_leftBelow_22 rfl ?_
    refine hj_iadd dX12_leftBelow_23 ?_
    refine hj_iald dX12_leftBelow_24 (fun t2 _ => ?_)
    exact hj_iret dX12_leftBelow_25 rfl rfl (Nat.le_refl _)
  · refine hj_aload_n 0 dX12_leftBelow_4 rfl ?_
    refine hj_getR flX12_52 dX12_leftBelow_5 (fun t3 _ => ?_)
    refine hj_aload_n 0 dX12_leftBelow_8 rfl ?_
    refine hj_getI flX12_221 dX12_leftBelow_9 (fun t4 _ => ?_)
    refine hj_iald dX12_leftBelow_12 (fun t5 _ => ?_)
    refine hj_ineg dX12_leftBelow_13 ?_
    refine hj_goto 25 dX12_leftBelow_14 (by decide) ?_
    exact hj_iret dX12_leftBelow_25 rfl rfl (Nat.le_refl _)
theorem cX12_leftBelowk {a0 : Nat} {a1 : Int32} {σ : Sto} {r : Int32 × Sto} (h : fX12_leftBelow a0 a1 σ = some r) : ∃ fs, hs_o σ 12 a0 = some fs := (ck_of h).1
def fX12_rightBelow (a0 : Nat) (a1 : Int32) (σ : Sto) : Option (Int32 × Sto) := ck σ 12 a0 (if a1 = 0 then (some ((0 : Int32), σ)) else ((gR σ 12 a0 48).bind fun t1 => ((aI σ 2 t1 ((((5 : Int32)) + a1))).bind fun t2 => (cb (fX12_longAt a0 ((a1 - ((1 : Int32)))) σ) fun r4 σ3 => (some ((t2 + r4), σ3))))))
set_option maxHeartbeats 2000000 in
theorem kX12_rightBelow (G : GP) (a0 : Nat) (a1 : Int32) (σ : Sto) : Me G mX12_rightBelow 2 0 0 jI [.ref a0, .int a1] σ (fX12_rightBelow a0 a1 σ) := by
  refine hs_me (lv := [(0, .ref a0), (1, .int a1)]) (plainFor_of_name (by decide +kernel)) (Nat.le_of_ble_eq_true rfl) rfl ?_
  unfold fX12_rightBelow
  refine hj_ck ?_
  refine hj_iload_n 1 dX12_rightBelow_0 rfl ?_
  refine hj_if_ne 8 dX12_rightBelow_1 (by decide) (fun _ => ?_) (fun _ => ?_)
  · refine hj_aload_n 0 dX12_rightBelow_8 rfl ?_
    refine hj_getR flX12_110 dX12_rightBelow_9 (fun t1 _ => ?_)
    refine hj_iconst (5 : Int32) dX12_rightBelow_12 (by decide) ?_
    refine hj_iload_n 1 dX12_rightBelow_13 rfl ?_
    refine hj_iadd dX12_rightBelow_14 ?_
    refine hj_iald dX12_rightBelow_15 (fun t2 _ => ?_)
    refine hj_aload_n 0 dX12_rightBelow_16 rfl ?_
    refine hj_iload_n 1 dX12_rightBelow_17 rfl ?_
    refine hj_iconst (1 : Int32) dX12_rightBelow_18 (by decide) ?_
    refine hj_isub dX12_rightBelow_19 ?_
    refine hj_callV (ci := 12) (M' := mX12_longAt) (h' := 1) (As := [.int ((a1 - ((1 : Int32))))]) mfX12_longAt mvX12_longAt ⟨_, _, rfl⟩ mlX12_317 dX12_rightBelow_20 (kX12_longAt G _ _ _) (fun _ hr => cX12_longAtk hr) ⟨Nat.le_of_ble_eq_true rfl, Nat.le_of_ble_eq_true rfl⟩ ⟨Nat.le_refl _, Nat.le_refl _⟩ rfl (Nat.le_of_ble_eq_true rfl) (fun r4 σ3 _ => ?_)
    refine hj_iadd dX12_rightBelow_23 ?_
    exact hj_iret dX12_rightBelow_24 rfl rfl (Nat.le_refl _)
  · refine hj_iconst (0 : Int32) dX12_rightBelow_4 (by decide) ?_
    refine hj_goto 24 dX12_rightBelow_5 (by decide) ?_
    exact hj_iret dX12_rightBelow_24 rfl rfl (Nat.le_refl _)
theorem cX12_rightBelowk {a0 : Nat} {a1 : Int32} {σ : Sto} {r : Int32 × Sto} (h : fX12_rightBelow a0 a1 σ = some r) : ∃ fs, hs_o σ 12 a0 = some fs := (ck_of h).1
