/-! ===== read: how it begins ===== -/
section R9g
variable {d : Nat} {r : Nat → Nat}
theorem c_start {F A : Nat → Nat → Int32} {B : Nat → Nat → Int64} (hd : d = 7 ∨ d = 22) : ∃ F', fX3_start 37 d (mkC F A B r) = some ((), mkC F' A B (va_up r 2 d)) ∧ (∀ c, ¬ c = 37 → ¬ c = d → ¬ c = d + 11 → F' c = F c) ∧ (F' 37 2 = 0 ∧ F' 37 3 = 0 ∧ F' 37 4 = -1 ∧ F' 37 5 = 0 ∧ F' 37 6 = -1 ∧ F' 37 7 = 0 ∧ F' 37 8 = 0) ∧ (F' d 0 = 0 ∧ F' d 5 = 0 ∧ F' d 9 = 100 ∧ F' d 10 = 0) ∧ F' (d + 11) 0 = 0 := by
  obtain ⟨k0, k1, k2, k3, k4, k5, k6, k7, k8, k9, k10, kp⟩ := TA_of hd
  have kp0 := kp.1
  have d37 : ¬ d = 37 := by omega
  have e37 : ¬ (37 : Nat) = d := by omega
  have e1 : ¬ (37 : Nat) = d + 11 := by omega
  have e2 : ¬ d + 11 = 37 := by omega
  have e3 : ¬ d = d + 11 := by omega
  have e4 : ¬ d + 11 = d := by omega
  have hem : ∀ r' : Nat → Nat, fX10_empty d (mkC F A B r') = some ((), mkC (va_up (va_up F d (upd (upd (upd (upd (F d) 0 0) 5 0) 9 100) 10 0)) (d + 11) (upd (F (d + 11)) 0 0)) A B r') := fun r' => by
    unfold fX10_empty
    simp -implicitDefEqProofs (disch := first | assumption | omega | decide | exact And.intro (by omega) (by omega)) only [cck_0, cr0_0, cr0_1, cr0_2, cr0_3, cg0_4, cp0_4, cg0_5, cp0_5, cck_1, cg1_0, cp1_0, cr1_1, cr1_2, cr1_3, cg1_4, cp1_4, cg1_5, cp1_5, cr1_6, cr1_7, cck_2, cr2_0, cr2_1, cr2_2, cck_3, cr3_0, cr3_1, cg3_2, cp3_2, cg3_3, cp3_3, cg3_4, cp3_4, cg3_5, cp3_5, cg3_6, cp3_6, cg3_7, cp3_7, cg3_8, cp3_8, cck_4, cg4_0, cp4_0, cg4_1, cp4_1, cr4_2, cr4_3, cr4_4, cr4_5, cck_5, cg5_0, cp5_0, cr5_1, cr5_2, cr5_3, cck_6, cg6_0, cp6_0, cg6_1, cp6_1, cck_7, cg7_0, cp7_0, cg7_1, cp7_1, cr7_2, cr7_3, cr7_4, cr7_5, cr7_6, cr7_7, cr7_8, cck_8, cr8_0, cr8_1, cck_9, cr9_0, cr9_1, cr9_2, cr9_3, cg9_4, cp9_4, cck_10, cg10_0, cp10_0, cr10_1, cr10_2, cr10_3, cr10_4, cg10_5, cp10_5, cr10_6, cr10_7, cr10_8, cg10_9, cp10_9, cg10_10, cp10_10, cr10_11, cr10_12, cr10_13, cr10_14, cck_11, cr11_0, cg11_1, cp11_1, cr11_2, cr11_3, cr11_4, cr11_5, cr11_6, cr11_7, cr11_8, cr11_9, cr11_10, cr11_11, cr11_12, cr11_13, cr11_14, ca_30, cs_30, ca_31, cs_31, ca_32, cs_32, ca_33, cs_33, ca_34, cs_34, ca_35, cs_35, ca_36, cs_36, ca_37, cs_37, ca_38, cs_38, ca_39, cs_39, ca_40, cs_40, ca_41, cs_41, ca_42, cs_42, car_20, car_21, car_22, cq11_3, cq11_4, cq3_1, cq0_0, cq0_1, if_true, if_false, Option.bind_some, cb_e, lt_e, nI_1, hs_nar2, nh4, upd_at, vau_at, ca_42_0, cs_42_0, vau_vau, vau_ne]
  generalize hF1 : va_up (va_up F d (upd (upd (upd (upd (F d) 0 0) 5 0) 9 100) 10 0)) (d + 11) (upd (F (d + 11)) 0 0) = F1 at *
  have hr2 : ∀ Fx : Nat → Nat → Int32, gR (mkC Fx A B (va_up r 2 d)) 3 37 1 = some d := fun Fx => by rw [cr3_1 rfl, vau_at]
  refine ⟨va_up F1 37 (upd (upd (upd (upd (upd (upd (upd (F1 37) 2 0) 3 0) 4 (-1)) 5 0) 6 (-1)) 7 0) 8 0), ?_, fun c q1 q2 q3 => ?_, ?_, ?_, ?_⟩
  · unfold fX3_start
    simp -implicitDefEqProofs (disch := first | assumption | omega | decide | exact And.intro (by omega) (by omega)) only [cck_0, cr0_0, cr0_1, cr0_2, cr0_3, cg0_4, cp0_4, cg0_5, cp0_5, cck_1, cg1_0, cp1_0, cr1_1, cr1_2, cr1_3, cg1_4, cp1_4, cg1_5, cp1_5, cr1_6, cr1_7, cck_2, cr2_0, cr2_1, cr2_2, cck_3, cr3_0, cr3_1, cg3_2, cp3_2, cg3_3, cp3_3, cg3_4, cp3_4, cg3_5, cp3_5, cg3_6, cp3_6, cg3_7, cp3_7, cg3_8, cp3_8, cck_4, cg4_0, cp4_0, cg4_1, cp4_1, cr4_2, cr4_3, cr4_4, cr4_5, cck_5, cg5_0, cp5_0, cr5_1, cr5_2, cr5_3, cck_6, cg6_0, cp6_0, cg6_1, cp6_1, cck_7, cg7_0, cp7_0, cg7_1, cp7_1, cr7_2, cr7_3, cr7_4, cr7_5, cr7_6, cr7_7, cr7_8, cck_8, cr8_0, cr8_1, cck_9, cr9_0, cr9_1, cr9_2, cr9_3, cg9_4, cp9_4, cck_10, cg10_0, cp10_0, cr10_1, cr10_2, cr10_3, cr10_4, cg10_5, cp10_5, cr10_6, cr10_7, cr10_8, cg10_9, cp10_9, cg10_10, cp10_10, cr10_11, cr10_12, cr10_13, cr10_14, cck_11, cr11_0, cg11_1, cp11_1, cr11_2, cr11_3, cr11_4, cr11_5, cr11_6, cr11_7, cr11_8, cr11_9, cr11_10, cr11_11, cr11_12, cr11_13, cr11_14, ca_30, cs_30, ca_31, cs_31, ca_32, cs_32, ca_33, cs_33, ca_34, cs_34, ca_35, cs_35, ca_36, cs_36, ca_37, cs_37, ca_38, cs_38, ca_39, cs_39, ca_40, cs_40, ca_41, cs_41, ca_42, cs_42, car_20, car_21, car_22, cq11_3, cq11_4, cq3_1, cq0_0, cq0_1, if_true, if_false, Option.bind_some, cb_e, lt_e, nI_1, hs_nar2, nh4, upd_at, vau_at, ca_42_0, cs_42_0, cq3_1, hr2, hem, vau_vau]
  · rw [vau_ne q1, ← hF1, vau_ne q3, vau_ne q2]
  · rw [vau_at]
    refine ⟨?_, ?_, ?_, ?_, ?_, ?_, ?_⟩
    · rw [upd_ne (by decide), upd_ne (by decide), upd_ne (by decide), upd_ne (by decide), upd_ne (by decide), upd_ne (by decide), upd_at]
    · rw [upd_ne (by decide), upd_ne (by decide), upd_ne (by decide), upd_ne (by decide), upd_ne (by decide), upd_at]
    · rw [upd_ne (by decide), upd_ne (by decide), upd_ne (by decide), upd_ne (by decide), upd_at]
    · rw [upd_ne (by decide), upd_ne (by decide), upd_ne (by decide), upd_at]
    · rw [upd_ne (by decide), upd_ne (by decide), upd_at]
    · rw [upd_ne (by decide), upd_at]
    · rw [upd_at]
  · rw [vau_ne d37, ← hF1, vau_ne e3, vau_at]
    refine ⟨?_, ?_, ?_, ?_⟩
    · rw [upd_ne (by decide), upd_ne (by decide), upd_ne (by decide), upd_at]
    · rw [upd_ne (by decide), upd_ne (by decide), upd_at]
    · rw [upd_ne (by decide), upd_at]
    · rw [upd_at]
  · rw [vau_ne e2, ← hF1, vau_at, upd_at]
theorem oneM {lv : Nat} (h : lv ≤ 1) : (1 : Int32) - nI lv = nI (1 - lv) := by
  have : lv = 0 ∨ lv = 1 := by omega
  rcases this with e | e <;> subst e <;> rfl
theorem m130 (a : Nat) : (130 : Int32) * nI a = nI (130 * a) := (Int32.ofNat_mul 130 a).symm
theorem m420 (a : Nat) : (420 : Int32) * nI a = nI (420 * a) := (Int32.ofNat_mul 420 a).symm
theorem rd_start {F : Nat → Int32} {A : Nat → Nat → Int32} {B : Nat → Nat → Int64} {Fc Ac : Nat → Nat → Int32} {Bc : Nat → Nat → Int64} {n lv : Nat} (hd : d = 7 ∨ d = 22) (hn : n ≤ 2000) (hF : F 2 = nI n) (hFc : Fc 0 1 = nI n) (hb : ∀ i, i < n → Ac 1 i = A 1 i &&& 255) (hlv : lv ≤ 1) (h18 : F 18 = nI lv) (hk : B 7 = keysM) (hkc : Bc 3 = wordsC) : ∃ M K V NM PL Fs As Bs Fc1 F1 A1 B1, fX9_scan 2 1 (nI n) (mkC Fc Ac Bc r) = some ((), mkC Fs As Bs r) ∧ fX3_start 37 d (mkC (va_up Fs 0 (upd (Fs 0) 1 0)) As Bs r) = some ((), mkC Fc1 As Bs (va_up r 2 d)) ∧ fX12_read 0 (mkM F A B) = fX12_read_b208 FU 0 (mkM F1 A1 B1) ∧ Rd d (1 - lv) M K V NM PL Fc1 As Bs F1 A1 B1 0 ∧ (∀ c, ¬ c = 0 → ¬ c = 2 → ¬ c = 37 → ¬ c = d → ¬ c = d + 11 → Fc1 c = Fc c) ∧ Fc1 0 1 = 0 ∧ (∀ c, ¬ c = 4 → ¬ c = 5 → As c = Ac c) ∧ (∀ c, ¬ c = 6 → Bs c = Bc c) ∧ (∀ k, ¬ k = 2 → ¬ k = 4 → ¬ (10 ≤ k ∧ k ≤ 16) → ¬ k = 19 → ¬ k = 20 → ¬ k = 33 → ¬ k = 39 → F1 k = F k) ∧ F1 2 = 0 ∧ (∀ a j, ¬ SReg (1 - lv) a j → ¬ (2 ≤ a ∧ a ≤ 5) → A1 a j = A a j) ∧ ∀ c, ¬ c = 6 → B1 c = B c := by
  /- the model's text -/
  obtain ⟨A1, a1, a2, a3, a4⟩ := m_rd10 (F := upd F 4 (nI n)) (B := B) hn (upd_at _ _ _) n 0 FU A (by omega) (by unfold FU; omega)
  /- both cut -/
  have hfx : ∃ f : Nat → Nat, (∀ j, f j < 256) ∧ ∀ j, A 1 j &&& 255 = nI (f j) := ⟨fun j => Classical.choose (and255 (A 1 j)), fun j => (Classical.choose_spec (and255 (A 1 j))).1, fun j => (Classical.choose_spec (and255 (A 1 j))).2⟩
  obtain ⟨f, f1, f2⟩ := hfx
  obtain ⟨N, tk, pl, Ac', Bc', F', A', B', b1, b2, b3, b4, b5, b6, b7, b8⟩ := toks_go (f := f) (L := n) hn f1 (rc := r) n 0 0 FU FU 0 (by omega) (by omega) (by omega) (by unfold FU; omega) (by unfold FU; omega) (by omega) (va_up Fc 2 (upd (Fc 2) 4 0)) Ac Bc (upd (upd (upd F 4 (nI n)) 2 0) 10 0) A1 B (fun _ => (0, 0, [])) (fun _ => 0) (fun j hj => by rw [hb j hj, f2]) hkc (by rw [vau_at, upd_at]; rfl) (fun j hj => by rw [a4 j (by omega) hj, f2]) hk (by rw [upd_ne (by decide), upd_ne (by decide), upd_at]) (upd_at _ _ _) (fun j hj => by omega) (fun j hj => by omega) (fun j hj => by omega)
  have scan : fX9_scan 2 1 (nI n) (mkC Fc Ac Bc r) = some ((), mkC (va_up (va_up Fc 2 (upd (Fc 2) 4 0)) 2 (upd (va_up Fc 2 (upd (Fc 2) 4 0) 2) 4 (nI N))) Ac' Bc' r) := by
    unfold fX9_scan
    simp -implicitDefEqProofs (disch := first | assumption | omega | decide | exact And.intro (by omega) (by omega)) only [cck_0, cr0_0, cr0_1, cr0_2, cr0_3, cg0_4, cp0_4, cg0_5, cp0_5, cck_1, cg1_0, cp1_0, cr1_1, cr1_2, cr1_3, cg1_4, cp1_4, cg1_5, cp1_5, cr1_6, cr1_7, cck_2, cr2_0, cr2_1, cr2_2, cck_3, cr3_0, cr3_1, cg3_2, cp3_2, cg3_3, cp3_3, cg3_4, cp3_4, cg3_5, cp3_5, cg3_6, cp3_6, cg3_7, cp3_7, cg3_8, cp3_8, cck_4, cg4_0, cp4_0, cg4_1, cp4_1, cr4_2, cr4_3, cr4_4, cr4_5, cck_5, cg5_0, cp5_0, cr5_1, cr5_2, cr5_3, cck_6, cg6_0, cp6_0, cg6_1, cp6_1, cck_7, cg7_0, cp7_0, cg7_1, cp7_1, cr7_2, cr7_3, cr7_4, cr7_5, cr7_6, cr7_7, cr7_8, cck_8, cr8_0, cr8_1, cck_9, cr9_0, cr9_1, cr9_2, cr9_3, cg9_4, cp9_4, cck_10, cg10_0, cp10_0, cr10_1, cr10_2, cr10_3, cr10_4, cg10_5, cp10_5, cr10_6, cr10_7, cr10_8, cg10_9, cp10_9, cg10_10, cp10_10, cr10_11, cr10_12, cr10_13, cr10_14, cck_11, cr11_0, cg11_1, cp11_1, cr11_2, cr11_3, cr11_4, cr11_5, cr11_6, cr11_7, cr11_8, cr11_9, cr11_10, cr11_11, cr11_12, cr11_13, cr11_14, ca_30, cs_30, ca_31, cs_31, ca_32, cs_32, ca_33, cs_33, ca_34, cs_34, ca_35, cs_35, ca_36, cs_36, ca_37, cs_37, ca_38, cs_38, ca_39, cs_39, ca_40, cs_40, ca_41, cs_41, ca_42, cs_42, car_20, car_21, car_22, cq11_3, cq11_4, cq3_1, cq0_0, cq0_1, if_true, if_false, Option.bind_some, cb_e, lt_e, nI_1, hs_nar2, nh4, upd_at, vau_at, ca_42_0, cs_42_0]
    exact b1
  generalize hFs : va_up (va_up Fc 2 (upd (Fc 2) 4 0)) 2 (upd (va_up Fc 2 (upd (Fc 2) 4 0) 2) 4 (nI N)) = Fs at *
  have fso : ∀ c, ¬ c = 2 → Fs c = Fc c := fun c hc => by rw [← hFs, vau_ne hc, vau_ne hc]
  obtain ⟨Fc1, s1, s2, ⟨s3, s4, s5, s6, s7, s8, s9⟩, ⟨s10, s11, s12, s13⟩, s14⟩ := c_start (F := va_up Fs 0 (upd (Fs 0) 1 0)) (A := Ac') (B := Bc') (r := r) hd
  /- the model's side is emptied -/
  have sd1 : 1 - lv ≤ 1 := by omega
  have sd2 : 1 - lv < 2 := by omega
  generalize hsd : 1 - lv = sd at *
  have f18 : F' 18 = nI lv := by rw [b6 18 (by decide), upd_ne (by decide), upd_ne (by decide), upd_ne (by decide)]; exact h18
  generalize hF2 : upd (upd (upd (upd (upd (upd (upd (upd F' 11 0) 12 0) 13 0) 15 0) 19 (nI sd)) 20 0) 33 (nI (130 * sd))) 39 (nI (420 * sd)) = F2
  have g19 : F2 19 = nI sd := by rw [← hF2, upd_ne (by decide), upd_ne (by decide), upd_ne (by decide), upd_at]
  generalize hA2 : va_up (va_up (va_up A' 9 (upd (A' 9) sd 0)) 12 (upd (A' 12) sd 100)) 13 (upd (A' 13) sd 0) = A2
  obtain ⟨A3, c1, c2, c3, c4⟩ := m_rd137 (F := F2) (B := B') sd1 g19 20 0 FU A2 (by omega) (by unfold FU; omega)
  obtain ⟨A4, d1, d2, d3, d4⟩ := m_rd166 (F := F2) (B := B') sd1 g19 6 0 FU A3 (by omega) (by unfold FU; omega)
  have om := oneM hlv
  rw [hsd] at om
  have cut : fX12_cut 0 (mkM (upd (upd F 4 (nI n)) 2 0) A1 B) = some ((), mkM F' A' B') := by
    unfold fX12_cut
    simp -implicitDefEqProofs (disch := first | assumption | omega | decide | exact And.intro (by omega) (by omega)) only [mck, mg_0, mp_0, mr_1, mg_2, mp_2, mr_3, mg_4, mp_4, mr_5, mr_6, mr_7, mr_8, mr_9, mg_10, mp_10, mg_11, mp_11, mg_12, mp_12, mg_13, mp_13, mg_14, mp_14, mg_15, mp_15, mg_16, mp_16, mg_17, mp_17, mg_18, mp_18, mg_19, mp_19, mg_20, mp_20, mr_21, mr_22, mr_23, mr_24, mr_25, mr_26, mr_27, mr_28, mr_29, mr_30, mr_31, mr_32, mg_33, mp_33, mr_34, mr_35, mr_36, mr_37, mr_38, mg_39, mp_39, mr_40, mr_41, mr_42, mg_43, mp_43, mr_44, mr_45, mg_46, mp_46, mr_47, mr_48, mg_49, mp_49, mg_50, mp_50, mg_51, mp_51, mr_52, mr_53, mr_54, mg_55, mp_55, mr_56, mr_57, mg_58, mp_58, mg_59, mp_59, mg_60, mp_60, mr_61, mg_62, mp_62, mr_63, mr_64, mr_65, mr_66, mr_67, mr_68, ma_1, ms_1, ma_2, ms_2, ma_3, ms_3, ma_4, ms_4, ma_5, ms_5, ma_6, ms_6, ma_7, ms_7, ma_8, ms_8, ma_9, ms_9, ma_10, ms_10, ma_11, ms_11, ma_12, ms_12, ma_13, ms_13, ma_14, ms_14, ma_15, ms_15, ma_16, ms_16, ma_17, ms_17, ma_18, ms_18, ma_19, ms_19, ma_20, ms_20, ma_21, ms_21, ma_22, ms_22, ma_23, ms_23, ma_24, ms_24, ma_25, ms_25, ma_26, ms_26, ma_27, ms_27, ma_28, ms_28, ma_29, ms_29, ma_30, ms_30, ma_31, ms_31, ma_32, ms_32, ma_33, ms_33, ma_34, ms_34, ma_35, ms_35, ma_36, ms_36, ma_37, ms_37, ma_38, ms_38, ma_39, ms_39, ma_40, ms_40, ma_41, ms_41, ma_42, ms_42, ma_43, ms_43, if_true, if_false, Option.bind_some, cb_e, lt_e, nI_1, hs_nar2, nh4, upd_at, vau_at, ma_30_18, ms_30_18, ma_31_18, ms_31_18, ma_28_0, ms_28_0, ma_28_1, ms_28_1, ma_28_2, ms_28_2, ma_28_3, ms_28_3, ma_28_4, ms_28_4, ma_42_0, ms_42_0, ma_42_1, ms_42_1, ma_42_2, ms_42_2, ma_36_0, ms_36_0]
    exact b2
  have run36 : fX12_read_b36 0 (mkM (upd F 4 (nI n)) A1 B) = fX12_read_b137 FU 0 (nI 0) (mkM F2 A2 B') := by
    rw [← hF2, ← hA2]
    unfold fX12_read_b36
    simp -implicitDefEqProofs (disch := first | assumption | omega | decide | exact And.intro (by omega) (by omega)) only [mck, mg_0, mp_0, mr_1, mg_2, mp_2, mr_3, mg_4, mp_4, mr_5, mr_6, mr_7, mr_8, mr_9, mg_10, mp_10, mg_11, mp_11, mg_12, mp_12, mg_13, mp_13, mg_14, mp_14, mg_15, mp_15, mg_16, mp_16, mg_17, mp_17, mg_18, mp_18, mg_19, mp_19, mg_20, mp_20, mr_21, mr_22, mr_23, mr_24, mr_25, mr_26, mr_27, mr_28, mr_29, mr_30, mr_31, mr_32, mg_33, mp_33, mr_34, mr_35, mr_36, mr_37, mr_38, mg_39, mp_39, mr_40, mr_41, mr_42, mg_43, mp_43, mr_44, mr_45, mg_46, mp_46, mr_47, mr_48, mg_49, mp_49, mg_50, mp_50, mg_51, mp_51, mr_52, mr_53, mr_54, mg_55, mp_55, mr_56, mr_57, mg_58, mp_58, mg_59, mp_59, mg_60, mp_60, mr_61, mg_62, mp_62, mr_63, mr_64, mr_65, mr_66, mr_67, mr_68, ma_1, ms_1, ma_2, ms_2, ma_3, ms_3, ma_4, ms_4, ma_5, ms_5, ma_6, ms_6, ma_7, ms_7, ma_8, ms_8, ma_9, ms_9, ma_10, ms_10, ma_11, ms_11, ma_12, ms_12, ma_13, ms_13, ma_14, ms_14, ma_15, ms_15, ma_16, ms_16, ma_17, ms_17, ma_18, ms_18, ma_19, ms_19, ma_20, ms_20, ma_21, ms_21, ma_22, ms_22, ma_23, ms_23, ma_24, ms_24, ma_25, ms_25, ma_26, ms_26, ma_27, ms_27, ma_28, ms_28, ma_29, ms_29, ma_30, ms_30, ma_31, ms_31, ma_32, ms_32, ma_33, ms_33, ma_34, ms_34, ma_35, ms_35, ma_36, ms_36, ma_37, ms_37, ma_38, ms_38, ma_39, ms_39, ma_40, ms_40, ma_41, ms_41, ma_42, ms_42, ma_43, ms_43, if_true, if_false, Option.bind_some, cb_e, lt_e, nI_1, hs_nar2, nh4, upd_at, vau_at, ma_30_18, ms_30_18, ma_31_18, ms_31_18, ma_28_0, ms_28_0, ma_28_1, ms_28_1, ma_28_2, ms_28_2, ma_28_3, ms_28_3, ma_28_4, ms_28_4, ma_42_0, ms_42_0, ma_42_1, ms_42_1, ma_42_2, ms_42_2, ma_36_0, ms_36_0, cut, upd_ne, f18, om, vau_ne, m130, m420]
    rfl
  have mrun : fX12_read 0 (mkM F A B) = fX12_read_b208 FU 0 (mkM F2 A4 B') := by
    have e0 : fX12_read 0 (mkM F A B) = fX12_read_b10 FU 0 (nI 0) (mkM (upd F 4 (nI n)) A B) := by
      unfold fX12_read
      simp -implicitDefEqProofs (disch := first | assumption | omega | decide | exact And.intro (by omega) (by omega)) only [mck, mg_0, mp_0, mr_1, mg_2, mp_2, mr_3, mg_4, mp_4, mr_5, mr_6, mr_7, mr_8, mr_9, mg_10, mp_10, mg_11, mp_11, mg_12, mp_12, mg_13, mp_13, mg_14, mp_14, mg_15, mp_15, mg_16, mp_16, mg_17, mp_17, mg_18, mp_18, mg_19, mp_19, mg_20, mp_20, mr_21, mr_22, mr_23, mr_24, mr_25, mr_26, mr_27, mr_28, mr_29, mr_30, mr_31, mr_32, mg_33, mp_33, mr_34, mr_35, mr_36, mr_37, mr_38, mg_39, mp_39, mr_40, mr_41, mr_42, mg_43, mp_43, mr_44, mr_45, mg_46, mp_46, mr_47, mr_48, mg_49, mp_49, mg_50, mp_50, mg_51, mp_51, mr_52, mr_53, mr_54, mg_55, mp_55, mr_56, mr_57, mg_58, mp_58, mg_59, mp_59, mg_60, mp_60, mr_61, mg_62, mp_62, mr_63, mr_64, mr_65, mr_66, mr_67, mr_68, ma_1, ms_1, ma_2, ms_2, ma_3, ms_3, ma_4, ms_4, ma_5, ms_5, ma_6, ms_6, ma_7, ms_7, ma_8, ms_8, ma_9, ms_9, ma_10, ms_10, ma_11, ms_11, ma_12, ms_12, ma_13, ms_13, ma_14, ms_14, ma_15, ms_15, ma_16, ms_16, ma_17, ms_17, ma_18, ms_18, ma_19, ms_19, ma_20, ms_20, ma_21, ms_21, ma_22, ms_22, ma_23, ms_23, ma_24, ms_24, ma_25, ms_25, ma_26, ms_26, ma_27, ms_27, ma_28, ms_28, ma_29, ms_29, ma_30, ms_30, ma_31, ms_31, ma_32, ms_32, ma_33, ms_33, ma_34, ms_34, ma_35, ms_35, ma_36, ms_36, ma_37, ms_37, ma_38, ms_38, ma_39, ms_39, ma_40, ms_40, ma_41, ms_41, ma_42, ms_42, ma_43, ms_43, if_true, if_false, Option.bind_some, cb_e, lt_e, nI_1, hs_nar2, nh4, upd_at, vau_at, ma_30_18, ms_30_18, ma_31_18, ms_31_18, ma_28_0, ms_28_0, ma_28_1, ms_28_1, ma_28_2, ms_28_2, ma_28_3, ms_28_3, ma_28_4, ms_28_4, ma_42_0, ms_42_0, ma_42_1, ms_42_1, ma_42_2, ms_42_2, ma_36_0, ms_36_0, hF]
      rfl
    rw [e0, a1, run36, c1]
    unfold fX12_read_b164
    exact d1
  have Fo : ∀ k, ¬ k = 2 → ¬ k = 4 → ¬ (10 ≤ k ∧ k ≤ 16) → ¬ k = 19 → ¬ k = 20 → ¬ k = 33 → ¬ k = 39 → F2 k = F k := fun k q1 q2 q3 q4 q5 q6 q7 => by
    rw [← hF2, upd_ne q7, upd_ne q6, upd_ne q5, upd_ne q4, upd_ne (by omega), upd_ne (by omega), upd_ne (by omega), upd_ne (by omega), b6 k (by omega), upd_ne (by omega), upd_ne q1, upd_ne q2]
  have F22 : F2 2 = 0 := by
    rw [← hF2, upd_ne (by decide), upd_ne (by decide), upd_ne (by decide), upd_ne (by decide), upd_ne (by decide), upd_ne (by decide), upd_ne (by decide), upd_ne (by decide), b6 2 (by decide), upd_ne (by decide), upd_at]
  have a2o : ∀ a, ¬ a = 9 → ¬ a = 12 → ¬ a = 13 → A2 a = A' a := fun a q1 q2 q3 => by rw [← hA2, vau_ne q3, vau_ne q2, vau_ne q1]
  have A29 : A2 9 = upd (A' 9) sd 0 := by rw [← hA2, vau_ne (by decide), vau_ne (by decide), vau_at]
  have A212 : A2 12 = upd (A' 12) sd 100 := by rw [← hA2, vau_ne (by decide), vau_at]
  have A213 : A2 13 = upd (A' 13) sd 0 := by rw [← hA2, vau_at]
  have a4o : ∀ a, ¬ a = 9 → ¬ a = 12 → ¬ a = 13 → ¬ a = 17 → ¬ a = 18 → ¬ a = 19 → A4 a = A' a := fun a q1 q2 q3 q4 q5 q6 => by rw [d2 a q5 q6, c2 a q4, a2o a q1 q2 q3]
  have A49 : A4 9 = upd (A' 9) sd 0 := by rw [d2 9 (by decide) (by decide), c2 9 (by decide)]; exact A29
  have A412 : A4 12 = upd (A' 12) sd 100 := by rw [d2 12 (by decide) (by decide), c2 12 (by decide)]; exact A212
  have A413 : A4 13 = upd (A' 13) sd 0 := by rw [d2 13 (by decide) (by decide), c2 13 (by decide)]; exact A213
  have Ao : ∀ a j, ¬ SReg sd a j → ¬ (2 ≤ a ∧ a ≤ 5) → A4 a j = A a j := fun a j q1 q2 => by
    have base : A' a = A a := by rw [b7 a (by omega) (by omega) (by omega), a2 a (by omega)]
    by_cases e9 : a = 9
    · subst e9
      rw [A49, upd_ne (fun ej => q1 (by unfold SReg; omega)), base]
    · by_cases e12 : a = 12
      · subst e12
        rw [A412, upd_ne (fun ej => q1 (by unfold SReg; omega)), base]
      · by_cases e13 : a = 13
        · subst e13
          rw [A413, upd_ne (fun ej => q1 (by unfold SReg; omega)), base]
        · by_cases e17 : a = 17
          · subst e17
            rw [d2 17 (by decide) (by decide), c3 j (fun z => q1 (by unfold SReg; omega)), a2o 17 (by decide) (by decide) (by decide), base]
          · by_cases e18 : a = 18
            · subst e18
              rw [(d3 j (fun z => q1 (by unfold SReg; omega))).1, c2 18 (by decide), a2o 18 (by decide) (by decide) (by decide), base]
            · by_cases e19 : a = 19
              · subst e19
                rw [(d3 j (fun z => q1 (by unfold SReg; omega))).2, c2 19 (by decide), a2o 19 (by decide) (by decide) (by decide), base]
              · rw [a4o a e9 e12 e13 e17 e18 e19, base]
  have tkr := b3.tk hn
  have tkr4 : TkR Ac' Bc' A4 B' (min N 400) (fun j => if j < N then (tk j).1 else 18) (fun j => (tk j).2.1) (fun j => (tk j).2.2) (fun j => if j < N then pl j else n) := by
    unfold TkR at *
    rw [a4o 3 (by decide) (by decide) (by decide) (by decide) (by decide) (by decide), a4o 4 (by decide) (by decide) (by decide) (by decide) (by decide) (by decide), a4o 5 (by decide) (by decide) (by decide) (by decide) (by decide) (by decide)]
    exact tkr
  have g11 : F2 11 = 0 := by rw [← hF2, upd_ne (by decide), upd_ne (by decide), upd_ne (by decide), upd_ne (by decide), upd_ne (by decide), upd_ne (by decide), upd_ne (by decide), upd_at]
  have g12 : F2 12 = 0 := by rw [← hF2, upd_ne (by decide), upd_ne (by decide), upd_ne (by decide), upd_ne (by decide), upd_ne (by decide), upd_ne (by decide), upd_at]
  have g13 : F2 13 = 0 := by rw [← hF2, upd_ne (by decide), upd_ne (by decide), upd_ne (by decide), upd_ne (by decide), upd_ne (by decide), upd_at]
  have g15 : F2 15 = 0 := by rw [← hF2, upd_ne (by decide), upd_ne (by decide), upd_ne (by decide), upd_ne (by decide), upd_at]
  have g20 : F2 20 = 0 := by rw [← hF2, upd_ne (by decide), upd_ne (by decide), upd_at]
  have g33 : F2 33 = nI (130 * sd) := by rw [← hF2, upd_ne (by decide), upd_at]
  have g39 : F2 39 = nI (420 * sd) := by rw [← hF2, upd_at]
  refine ⟨min N 400, _, _, _, _, Fs, Ac', Bc', Fc1, F2, A4, B', scan, s1, mrun, ⟨⟨Nat.zero_le _, tkr4, ⟨s4, ⟨0, by decide, s3, fun _ => rfl⟩, fun q => absurd rfl q, by decide⟩, ⟨g13, ⟨0, by decide, g11, fun _ => rfl⟩, fun q => absurd rfl q, by decide⟩⟩, 0, 0, 0, 0, 0, 0, 420 * sd, 130 * sd, fun _ => [], ?_, fun _ => ?_⟩, fun c q1 q2 q3 q4 q5 => by rw [s2 c q3 q4 q5, vau_ne q1, fso c q2], ?_, b4, b5, Fo, F22, Ao, b8⟩
  · exact ⟨⟨g12, g19, sd1⟩, ⟨by decide, s6, g15, fun q => absurd rfl q, fun _ => s7⟩, ⟨by decide, s8, by rw [A49, upd_at]; rfl, g20, fun i hi => absurd hi (Nat.not_lt_zero i)⟩, ⟨by decide, s9, by rw [A413, upd_at]; rfl⟩, ⟨Nat.le_refl _, s10, fun i hi => absurd hi (Nat.not_lt_zero i)⟩, ⟨s11, Nat.le_refl _⟩, ⟨g39, Nat.le_refl _, Nat.le_refl _⟩, ⟨g33, Nat.le_refl _, by omega⟩, ⟨0, Nat.le_refl _, s13⟩, 0, by decide, s14⟩
  · refine ⟨(0, (fun _ => 0), (fun _ => 0), 100, 0, (fun _ => 0), (fun _ => 0), (fun _ => 0), fun _ => none), fun _ => none, (0, fun _ => 0, fun _ => 0, fun _ => 0), ⟨rfl, rfl, rfl, ⟨by decide, fun b hb => absurd hb (Nat.not_lt_zero b), ⟨by decide, by decide⟩, by decide, fun f hf => absurd hf (Nat.not_lt_zero f)⟩, fun _ => rfl⟩, fun b hb => absurd hb (Nat.not_lt_zero b), ⟨s12, by rw [A412, upd_at]; rfl⟩, ⟨s13, fun f hf => absurd hf (Nat.not_lt_zero f), fun b hb => absurd hb (Nat.not_lt_zero b)⟩, ⟨⟨s14, fun i hi => absurd hi (Nat.not_lt_zero i)⟩, ⟨?_, fun i hi => absurd hi (Nat.not_lt_zero i)⟩, ⟨by decide, fun i hi => absurd hi (Nat.not_lt_zero i), fun i j hi => absurd hi (Nat.not_lt_zero i), fun i hi => absurd hi (Nat.not_lt_zero i), fun i hi => absurd hi (Nat.not_lt_zero i)⟩⟩, fun b hb _ => ?_, fun b hb => absurd hb (Nat.not_lt_zero b)⟩
    · rw [d2 17 (by decide) (by decide), c4 _ (by omega) (by omega)]
      rfl
    · rw [(d4 (6 * sd + b) (by omega) (by omega)).1, (d4 (6 * sd + b) (by omega) (by omega)).2]
  · rw [s2 0 (by decide) (by omega) (by omega), vau_at, upd_at]
end R9g
