/-! ===== both have the same tokens ===== -/
theorem tok_ok {f : Nat → Nat} {L i e : Nat} (hf : ∀ j, f j < 256) (h : RunE f L i e) : ((tokAt f i e).1 = 17 → (tokAt f i e).2.1 ≤ 9999) ∧ ((tokAt f i e).1 = 16 → Nam (tokAt f i e).2.2) := by
  have hs : ∀ c, c < 256 → ¬ sgk c = 17 ∧ ¬ sgk c = 16 := by decide +kernel
  cases hl : isL (f i) with
  | true =>
    by_cases c : e - i ≤ 8
    · have htk : tokAt f i e = (wk (ltr f i (e - i)), 0, ltr f i (e - i)) := by unfold tokAt; rw [hl, if_pos rfl, if_pos c]
      rw [htk]
      exact ⟨fun _ => Nat.zero_le _, fun _ => ⟨by rw [ltr_len]; exact c, ltr_let _ (h.let hl)⟩⟩
    · have htk : tokAt f i e = (19, 0, []) := by unfold tokAt; rw [hl, if_pos rfl, if_neg c]
      rw [htk]
      exact ⟨fun q => (by cases q), fun q => (by cases q)⟩
  | false =>
    cases hd : isD (f i) with
    | true =>
      by_cases c : e - i ≤ 4
      · have htk : tokAt f i e = (17, dgv f i (e - i), []) := by unfold tokAt; rw [hl, if_neg (by decide), hd, if_pos rfl, if_pos c]
        have hv := dgv_lt (e - i) (h.dig hl hd)
        have hv2 : 10 ^ (e - i) ≤ 10 ^ 4 := Nat.pow_le_pow_right (by decide) c
        rw [htk]
        refine ⟨fun _ => ?_, fun q => (by cases q)⟩
        show dgv f i (e - i) ≤ 9999
        omega
      · have htk : tokAt f i e = (19, 0, []) := by unfold tokAt; rw [hl, if_neg (by decide), hd, if_pos rfl, if_neg c]
        rw [htk]
        exact ⟨fun q => (by cases q), fun q => (by cases q)⟩
    | false =>
      have htk : tokAt f i e = (sgk (f i), 0, []) := by unfold tokAt; rw [hl, if_neg (by decide), hd, if_neg (by decide)]
      rw [htk]
      exact ⟨fun q => absurd q (hs _ (hf i)).1, fun q => absurd q (hs _ (hf i)).2⟩
def TokJ (Ac : Nat → Nat → Int32) (Bc : Nat → Nat → Int64) (A : Nat → Nat → Int32) (B : Nat → Nat → Int64) (L : Nat) (tk : Nat → Nat × Nat × List Nat) (pl : Nat → Nat) (j : Nat) : Prop := tkC Ac Bc j (pl j) (tk j) ∧ tkM A B j (pl j) (tk j) ∧ pl j < L ∧ vk (tk j).1 = true ∧ ¬ (tk j).1 = 18 ∧ ((tk j).1 = 17 → (tk j).2.1 ≤ 9999) ∧ ((tk j).1 = 16 → Nam (tk j).2.2)
def Toks (Ac : Nat → Nat → Int32) (Bc : Nat → Nat → Int64) (A : Nat → Nat → Int32) (B : Nat → Nat → Int64) (L N : Nat) (tk : Nat → Nat × Nat × List Nat) (pl : Nat → Nat) : Prop := N ≤ 401 ∧ (∀ j, j < N → TokJ Ac Bc A B L tk pl j) ∧ (∀ j, j + 1 < N → pl j < pl (j + 1)) ∧ (N ≤ 400 → Ac 4 N = nI 18 ∧ Ac 5 N = nI L ∧ A 3 N = nI 0 ∧ A 4 N = nI L)
theorem scan_full {Fc Ac : Nat → Nat → Int32} {Bc : Nat → Nat → Int64} {rc : Nat → Nat} {n L : Nat} (hn : n ≤ 401) (a3 : Fc 2 4 = nI n) : fX9_scan_b67 2 (nI L) (mkC Fc Ac Bc rc) = some ((), mkC (va_up Fc 2 (upd (Fc 2) 4 (nI n))) (va_up (va_up Ac 4 (upd (Ac 4) n 18)) 5 (upd (Ac 5) n (nI L))) Bc rc) := by
  have hFc : va_up Fc 2 (upd (Fc 2) 4 (nI n)) = Fc := by
    have : upd (Fc 2) 4 (nI n) = Fc 2 := by
      funext x
      unfold upd
      split
      · rename_i hx; rw [hx, a3]
      · rfl
    rw [this, vau_id]
  have hn2 : n < 402 := by omega
  rw [hFc]
  unfold fX9_scan_b67
  simp -implicitDefEqProofs (disch := first | assumption | omega | decide | exact And.intro (by omega) (by omega)) only [cck_0, cr0_0, cr0_1, cr0_2, cr0_3, cg0_4, cp0_4, cg0_5, cp0_5, cck_1, cg1_0, cp1_0, cr1_1, cr1_2, cr1_3, cg1_4, cp1_4, cg1_5, cp1_5, cr1_6, cr1_7, cck_2, cr2_0, cr2_1, cr2_2, cck_3, cr3_0, cr3_1, cg3_2, cp3_2, cg3_3, cp3_3, cg3_4, cp3_4, cg3_5, cp3_5, cg3_6, cp3_6, cg3_7, cp3_7, cg3_8, cp3_8, cck_4, cg4_0, cp4_0, cg4_1, cp4_1, cr4_2, cr4_3, cr4_4, cr4_5, cck_5, cg5_0, cp5_0, cr5_1, cr5_2, cr5_3, cck_6, cg6_0, cp6_0, cg6_1, cp6_1, cck_7, cg7_0, cp7_0, cg7_1, cp7_1, cr7_2, cr7_3, cr7_4, cr7_5, cr7_6, cr7_7, cr7_8, cck_8, cr8_0, cr8_1, cck_9, cr9_0, cr9_1, cr9_2, cr9_3, cg9_4, cp9_4, cck_10, cg10_0, cp10_0, cr10_1, cr10_2, cr10_3, cr10_4, cg10_5, cp10_5, cr10_6, cr10_7, cr10_8, cg10_9, cp10_9, cg10_10, cp10_10, cr10_11, cr10_12, cr10_13, cr10_14, cck_11, cr11_0, cg11_1, cp11_1, cr11_2, cr11_3, cr11_4, cr11_5, cr11_6, cr11_7, cr11_8, cr11_9, cr11_10, cr11_11, cr11_12, cr11_13, cr11_14, ca_30, cs_30, ca_31, cs_31, ca_32, cs_32, ca_33, cs_33, ca_34, cs_34, ca_35, cs_35, ca_36, cs_36, ca_37, cs_37, ca_38, cs_38, ca_39, cs_39, ca_40, cs_40, ca_41, cs_41, ca_42, cs_42, car_20, car_21, car_22, cq11_3, cq11_4, cq3_1, cq0_0, cq0_1, if_true, if_false, Option.bind_some, cb_e, lt_e, nI_1, hs_nar2, nh4, upd_at, vau_at, ca_42_0, cs_42_0, a3, vau_ne]
section TG
variable {f : Nat → Nat} {L : Nat} {rc : Nat → Nat} {Fc Ac : Nat → Nat → Int32} {Bc : Nat → Nat → Int64} {F : Nat → Int32} {A : Nat → Nat → Int32} {B : Nat → Nat → Int64} {tk : Nat → Nat × Nat × List Nat} {pl : Nat → Nat} {n : Nat}
theorem tok_wr (t1 : ∀ j, j < n → TokJ Ac Bc A B L tk pl j) {j : Nat} (hj : j < n) : TokJ (va_up (va_up Ac 4 (upd (Ac 4) n 18)) 5 (upd (Ac 5) n (nI L))) Bc A B L tk pl j := by
  obtain ⟨g1, g2, g3⟩ := t1 j hj
  exact ⟨⟨by rw [vau_ne (by decide), vau_at, upd_ne (by omega)]; exact g1.1, by rw [vau_at, upd_ne (by omega)]; exact g1.2.1, g1.2.2⟩, g2, g3⟩
theorem toks_end (hL : L ≤ 2000) {cf mf ci : Nat} (hn : n ≤ 401) (a3 : Fc 2 4 = nI n) (e1 : ∀ j, j < L → A 2 j &&& 255 = nI (f j)) (e3 : F 4 = nI L) (e4 : F 10 = nI n) (t1 : ∀ j, j < n → TokJ Ac Bc A B L tk pl j) (t2 : ∀ j, j + 1 < n → pl j < pl (j + 1)) : ∃ N tk' pl' Ac' Bc' F' A' B', fX9_scan_b10 (cf + 1) 2 1 (nI L) (nI L) (nI ci) (mkC Fc Ac Bc rc) = some ((), mkC (va_up Fc 2 (upd (Fc 2) 4 (nI N))) Ac' Bc' rc) ∧ fX12_cut_b7 (mf + 1) 0 (nI L) (mkM F A B) = some ((), mkM F' A' B') ∧ Toks Ac' Bc' A' B' L N tk' pl' ∧ (∀ c, ¬ c = 4 → ¬ c = 5 → Ac' c = Ac c) ∧ (∀ c, ¬ c = 6 → Bc' c = Bc c) ∧ (∀ k, ¬ k = 10 → F' k = F k) ∧ (∀ c, ¬ c = 3 → ¬ c = 4 → ¬ c = 5 → A' c = A c) ∧ ∀ c, ¬ c = 6 → B' c = B c := by
  have cfin : fX9_scan_b10 (cf + 1) 2 1 (nI L) (nI L) (nI ci) (mkC Fc Ac Bc rc) = some ((), mkC (va_up Fc 2 (upd (Fc 2) 4 (nI n))) (va_up (va_up Ac 4 (upd (Ac 4) n 18)) 5 (upd (Ac 5) n (nI L))) Bc rc) := by
    rw [fX9_scan_b10, scan_full hn a3]
    split
    · rfl
    · rw [if_pos (nI_le (Nat.le_refl _) (by omega))]
  by_cases c : n ≤ 400
  · obtain ⟨A', B', z1, z2, z3⟩ := m_token (F := F) (A := A) (B := B) (n := n) hn e4 0 L 0 0 (18, 0, []) rfl (fun q => (by cases q)) (fun q => (by cases q))
    have z1' : fX12_token 0 0 (nI L) 0 0 (mkM F A B) = some ((), mkM (upd F 10 (nI (n + 1))) A' B') := z1
    have n400 : ¬ (400 : Int32) < nI n := nI_nlt (a := 400) c (by decide)
    have ba := m_byteAt (F := F) (A := A) (B := B) hL e3 e1 (i := L) (by omega)
    refine ⟨n, tk, pl, _, Bc, upd F 10 (nI (n + 1)), A', B', cfin, ?_, ⟨hn, fun j hj => ?_, t2, fun _ => ⟨by rw [vau_ne (by decide), vau_at, upd_at]; rfl, by rw [vau_at, upd_at], z2.1, z2.2.1⟩⟩, fun c q1 q2 => by rw [vau_ne q2, vau_ne q1], fun _ _ => rfl, fun k hk => upd_ne hk, z3.2.1, z3.2.2⟩
    · rw [fX12_cut_b7, mg_10, Option.bind_some]
      try dsimp only
      rw [e4, if_neg n400, cb_e, ba, Option.bind_some]
      try dsimp only
      rw [mg_4, Option.bind_some]
      try dsimp only
      rw [e3, if_neg (nI_nlt (Nat.le_refl _) (by omega))]
      unfold fX12_cut_b31
      simp -implicitDefEqProofs (disch := first | assumption | omega | decide | exact And.intro (by omega) (by omega)) only [mck, mg_0, mp_0, mr_1, mg_2, mp_2, mr_3, mg_4, mp_4, mr_5, mr_6, mr_7, mr_8, mr_9, mg_10, mp_10, mg_11, mp_11, mg_12, mp_12, mg_13, mp_13, mg_14, mp_14, mg_15, mp_15, mg_16, mp_16, mg_17, mp_17, mg_18, mp_18, mg_19, mp_19, mg_20, mp_20, mr_21, mr_22, mr_23, mr_24, mr_25, mr_26, mr_27, mr_28, mr_29, mr_30, mr_31, mr_32, mg_33, mp_33, mr_34, mr_35, mr_36, mr_37, mr_38, mg_39, mp_39, mr_40, mr_41, mr_42, mg_43, mp_43, mr_44, mr_45, mg_46, mp_46, mr_47, mr_48, mg_49, mp_49, mg_50, mp_50, mg_51, mp_51, mr_52, mr_53, mr_54, mg_55, mp_55, mr_56, mr_57, mg_58, mp_58, mg_59, mp_59, mg_60, mp_60, mr_61, mg_62, mp_62, mr_63, mr_64, mr_65, mr_66, mr_67, mr_68, ma_1, ms_1, ma_2, ms_2, ma_3, ms_3, ma_4, ms_4, ma_5, ms_5, ma_6, ms_6, ma_7, ms_7, ma_8, ms_8, ma_9, ms_9, ma_10, ms_10, ma_11, ms_11, ma_12, ms_12, ma_13, ms_13, ma_14, ms_14, ma_15, ms_15, ma_16, ms_16, ma_17, ms_17, ma_18, ms_18, ma_19, ms_19, ma_20, ms_20, ma_21, ms_21, ma_22, ms_22, ma_23, ms_23, ma_24, ms_24, ma_25, ms_25, ma_26, ms_26, ma_27, ms_27, ma_28, ms_28, ma_29, ms_29, ma_30, ms_30, ma_31, ms_31, ma_32, ms_32, ma_33, ms_33, ma_34, ms_34, ma_35, ms_35, ma_36, ms_36, ma_37, ms_37, ma_38, ms_38, ma_39, ms_39, ma_40, ms_40, ma_41, ms_41, ma_42, ms_42, ma_43, ms_43, if_true, if_false, Option.bind_some, cb_e, lt_e, nI_1, hs_nar2, nh4, upd_at, vau_at, ma_30_18, ms_30_18, ma_31_18, ms_31_18, ma_28_0, ms_28_0, ma_28_1, ms_28_1, ma_28_2, ms_28_2, ma_28_3, ms_28_3, ma_28_4, ms_28_4, ma_42_0, ms_42_0, ma_42_1, ms_42_1, ma_42_2, ms_42_2, ma_36_0, ms_36_0, e3, z1']
    · obtain ⟨g1, g2, g3⟩ := tok_wr t1 hj
      have q := z3.1 j (by omega)
      exact ⟨g1, ⟨by rw [q.1]; exact g2.1, by rw [q.2.1]; exact g2.2.1, fun w => by rw [q.2.2.1]; exact g2.2.2.1 w, fun w => by rw [q.2.2.2]; exact g2.2.2.2 w⟩, g3⟩
  · have n400 : (400 : Int32) < nI n := nI_lt (a := 400) (by omega) (by omega)
    refine ⟨n, tk, pl, _, Bc, F, A, B, cfin, ?_, ⟨hn, fun j hj => tok_wr t1 hj, t2, fun q => absurd q c⟩, fun c q1 q2 => by rw [vau_ne q2, vau_ne q1], fun _ _ => rfl, fun _ _ => rfl, fun _ _ _ _ => rfl, fun _ _ => rfl⟩
    rw [fX12_cut_b7, mg_10, Option.bind_some]
    try dsimp only
    rw [e4, if_pos n400]
end TG
theorem toks_go {f : Nat → Nat} {L : Nat} (hL : L ≤ 2000) (hf : ∀ j, f j < 256) {rc : Nat → Nat} : ∀ k i n cf mf ci, L ≤ i + k → i ≤ L → n ≤ 401 → k < cf → k < mf → ci ≤ i → ∀ (Fc Ac : Nat → Nat → Int32) (Bc : Nat → Nat → Int64) (F : Nat → Int32) (A : Nat → Nat → Int32) (B : Nat → Nat → Int64) (tk : Nat → Nat × Nat × List Nat) (pl : Nat → Nat), (∀ j, j < L → Ac 1 j = nI (f j)) → (Bc 3 = wordsC) → (Fc 2 4 = nI n) → (∀ j, j < L → A 2 j &&& 255 = nI (f j)) → (B 7 = keysM) → (F 4 = nI L) → (F 10 = nI n) → (∀ j, j < n → TokJ Ac Bc A B L tk pl j) → (∀ j, j + 1 < n → pl j < pl (j + 1)) → (∀ j, j < n → pl j < i) → ∃ N tk' pl' Ac' Bc' F' A' B', fX9_scan_b10 cf 2 1 (nI L) (nI i) (nI ci) (mkC Fc Ac Bc rc) = some ((), mkC (va_up Fc 2 (upd (Fc 2) 4 (nI N))) Ac' Bc' rc) ∧ fX12_cut_b7 mf 0 (nI i) (mkM F A B) = some ((), mkM F' A' B') ∧ Toks Ac' Bc' A' B' L N tk' pl' ∧ (∀ c, ¬ c = 4 → ¬ c = 5 → Ac' c = Ac c) ∧ (∀ c, ¬ c = 6 → Bc' c = Bc c) ∧ (∀ k, ¬ k = 10 → F' k = F k) ∧ (∀ c, ¬ c = 3 → ¬ c = 4 → ¬ c = 5 → A' c = A c) ∧ ∀ c, ¬ c = 6 → B' c = B c := by
  intro k
  induction k with
  | zero =>
    intro i n cf mf ci h1 hi h2 h3 h4 h5 Fc Ac Bc F A B tk pl a1 a2 a3 e1 e2 e3 e4 t1 t2 t3
    obtain ⟨cf, rfl⟩ : ∃ q, cf = q + 1 := ⟨cf - 1, by omega⟩
    obtain ⟨mf, rfl⟩ : ∃ q, mf = q + 1 := ⟨mf - 1, by omega⟩
    have hi : i = L := by omega
    subst hi
    exact toks_end hL h2 a3 e1 e3 e4 t1 t2
  | succ k ih =>
    intro i n cf mf ci h1 hi h2 h3 h4 h5 Fc Ac Bc F A B tk pl a1 a2 a3 e1 e2 e3 e4 t1 t2 t3
    obtain ⟨cf, rfl⟩ : ∃ q, cf = q + 1 := ⟨cf - 1, by omega⟩
    obtain ⟨mf, rfl⟩ : ∃ q, mf = q + 1 := ⟨mf - 1, by omega⟩
    by_cases hiL0 : i = L
    · subst hiL0
      exact toks_end hL h2 a3 e1 e3 e4 t1 t2
    have hiL : i < L := by omega
    have hi2 : i < 2000 := by omega
    have ci2 : ¬ (2000 : Int32) ≤ nI ci := nI_ge (b := 2000) (by omega) (by decide)
    have nle : ¬ nI L ≤ nI i := nI_ge hiL (by omega)
    by_cases c : n ≤ 400
    · have n400 : ¬ (400 : Int32) < nI n := nI_nlt (a := 400) c (by decide)
      obtain ⟨e, hE⟩ := run_ex f hiL
      have eo := c_endOfRun (F := Fc) (A := Ac) (B := Bc) (r := rc) hL a1 hf hE
      have ai := a1 i hiL
      have bl := x_isB (hf i) (mkC Fc Ac Bc rc)
      have hcs : fX9_scan_b10 (cf + 1) 2 1 (nI L) (nI i) (nI ci) (mkC Fc Ac Bc rc) = if b2 (isB (f i)) = 0 then (fX9_note 2 1 (nI i) (nI e) (mkC Fc Ac Bc rc)).bind (fun p => fX9_scan_b58 (fX9_scan_b10 cf) 2 1 (nI L) (nI ci) (nI e) p.2) else fX9_scan_b58 (fX9_scan_b10 cf) 2 1 (nI L) (nI ci) (nI e) (mkC Fc Ac Bc rc) := by
        rw [fX9_scan_b10, if_neg ci2, if_neg nle]
        simp -implicitDefEqProofs (disch := first | assumption | omega | decide | exact And.intro (by omega) (by omega)) only [cck_0, cr0_0, cr0_1, cr0_2, cr0_3, cg0_4, cp0_4, cg0_5, cp0_5, cck_1, cg1_0, cp1_0, cr1_1, cr1_2, cr1_3, cg1_4, cp1_4, cg1_5, cp1_5, cr1_6, cr1_7, cck_2, cr2_0, cr2_1, cr2_2, cck_3, cr3_0, cr3_1, cg3_2, cp3_2, cg3_3, cp3_3, cg3_4, cp3_4, cg3_5, cp3_5, cg3_6, cp3_6, cg3_7, cp3_7, cg3_8, cp3_8, cck_4, cg4_0, cp4_0, cg4_1, cp4_1, cr4_2, cr4_3, cr4_4, cr4_5, cck_5, cg5_0, cp5_0, cr5_1, cr5_2, cr5_3, cck_6, cg6_0, cp6_0, cg6_1, cp6_1, cck_7, cg7_0, cp7_0, cg7_1, cp7_1, cr7_2, cr7_3, cr7_4, cr7_5, cr7_6, cr7_7, cr7_8, cck_8, cr8_0, cr8_1, cck_9, cr9_0, cr9_1, cr9_2, cr9_3, cg9_4, cp9_4, cck_10, cg10_0, cp10_0, cr10_1, cr10_2, cr10_3, cr10_4, cg10_5, cp10_5, cr10_6, cr10_7, cr10_8, cg10_9, cp10_9, cg10_10, cp10_10, cr10_11, cr10_12, cr10_13, cr10_14, cck_11, cr11_0, cg11_1, cp11_1, cr11_2, cr11_3, cr11_4, cr11_5, cr11_6, cr11_7, cr11_8, cr11_9, cr11_10, cr11_11, cr11_12, cr11_13, cr11_14, ca_30, cs_30, ca_31, cs_31, ca_32, cs_32, ca_33, cs_33, ca_34, cs_34, ca_35, cs_35, ca_36, cs_36, ca_37, cs_37, ca_38, cs_38, ca_39, cs_39, ca_40, cs_40, ca_41, cs_41, ca_42, cs_42, car_20, car_21, car_22, cq11_3, cq11_4, cq3_1, cq0_0, cq0_1, if_true, if_false, Option.bind_some, cb_e, lt_e, nI_1, hs_nar2, nh4, upd_at, vau_at, ca_42_0, cs_42_0, a3, if_neg n400, eo, ai, bl]
      cases hb : isB (f i) with
      | true =>
        have hnb := of_decide_eq_true hb
        have he : e = i + 1 := hE.one (decide_eq_false (by omega)) (decide_eq_false (by omega))
        subst he
        obtain ⟨N, tk', pl', Ac', Bc', F', A', B', g1, g2, g3⟩ := ih (i + 1) n cf mf (ci + 1) (by omega) (by omega) h2 (by omega) (by omega) (by omega) Fc Ac Bc F A B tk pl a1 a2 a3 e1 e2 e3 e4 t1 t2 (fun j hj => by have := t3 j hj; omega)
        refine ⟨N, tk', pl', Ac', Bc', F', A', B', ?_, ?_, g3⟩
        · rw [hcs, hb, if_neg b2t]
          unfold fX9_scan_b58
          rw [nI_1]
          exact g1
        · rw [← g2]
          have ba := m_byteAt (F := F) (A := A) (B := B) hL e3 e1 (i := i) (by omega)
          rw [if_pos hiL] at ba
          have gg : ∀ (d : Nat), d < 256 → f i = d → nI (f i) = nI d := fun d _ q => by rw [q]
          have gn : ∀ (d : Nat), d < 256 → ¬ f i = d → ¬ nI (f i) = nI d := fun d hd q z => q ((nI_eq (by have := hf i; omega) (by omega)).1 z)
          rw [fX12_cut_b7, mg_10, Option.bind_some]
          try dsimp only
          rw [e4, if_neg n400, cb_e, ba, Option.bind_some]
          try dsimp only
          rw [mg_4, Option.bind_some]
          try dsimp only
          rw [e3, if_pos (nI_lt hiL (by omega))]
          unfold fX12_cut_b67 fX12_cut_b291
          rw [nI_1]
          by_cases c9 : f i = 9
          · rw [if_pos (show nI (f i) = (9 : Int32) from gg 9 (by decide) c9)]
          rw [if_neg (show ¬ nI (f i) = (9 : Int32) from gn 9 (by decide) c9)]
          by_cases c10 : f i = 10
          · rw [if_pos (show nI (f i) = (10 : Int32) from gg 10 (by decide) c10)]
          rw [if_neg (show ¬ nI (f i) = (10 : Int32) from gn 10 (by decide) c10)]
          by_cases c13 : f i = 13
          · rw [if_pos (show nI (f i) = (13 : Int32) from gg 13 (by decide) c13)]
          rw [if_neg (show ¬ nI (f i) = (13 : Int32) from gn 13 (by decide) c13)]
          rw [if_pos (show nI (f i) = (32 : Int32) from gg 32 (by decide) (by omega))]
      | false =>
        obtain ⟨Ac1, Bc1, n1, n2, n3, n4, n5⟩ := c_tnote (F := Fc) (A := Ac) (B := Bc) (r := rc) hL a1 hf a2 hE a3 c
        obtain ⟨A1, B1, m1, m2, m3⟩ := m_ttoken (F := F) (A := A) (B := B) (fuel := mf) hL e3 e1 hf e2 hE hb e4 c
        have e0 := hE.1
        have e9 := hE.2.1
        obtain ⟨o1, o2⟩ := tok_ok hf hE
        obtain ⟨N, tk', pl', Ac', Bc', F', A', B', g1, g2, g3, g4, g5, g6, g7, g8⟩ := ih e (n + 1) cf mf (ci + 1) (by omega) (by omega) (by omega) (by omega) (by omega) (by omega) (va_up Fc 2 (upd (Fc 2) 4 (nI (n + 1)))) Ac1 Bc1 (upd F 10 (nI (n + 1))) A1 B1 (fun j => if j = n then tokAt f i e else tk j) (fun j => if j = n then i else pl j) (fun j hj => by rw [n4 1 (by decide) (by decide)]; exact a1 j hj) (by rw [n5 3 (by decide)]; exact a2) (by rw [vau_at, upd_at]) (fun j hj => by rw [m3.2.1 2 (by decide) (by decide) (by decide)]; exact e1 j hj) (by rw [m3.2.2 7 (by decide)]; exact e2) (by rw [upd_ne (by decide)]; exact e3) (upd_at _ _ _) (fun j hj => by
          unfold TokJ
          dsimp only
          by_cases cj : j = n
          · rw [if_pos cj, if_pos cj, cj]
            exact ⟨n2, m2, hiL, tok_vk f i e, tok_n18 f i e, o1, o2⟩
          · rw [if_neg cj, if_neg cj]
            obtain ⟨g1, g2, g3⟩ := t1 j (by omega)
            obtain ⟨q1, q2, q3⟩ := n3 j cj
            obtain ⟨q4, q5, q6, q7⟩ := m3.1 j cj
            exact ⟨⟨by rw [q1]; exact g1.1, by rw [q2]; exact g1.2.1, fun w => by rw [q3]; exact g1.2.2.1 w, fun w => by rw [q3]; exact g1.2.2.2 w⟩, ⟨by rw [q4]; exact g2.1, by rw [q5]; exact g2.2.1, fun w => by rw [q6]; exact g2.2.2.1 w, fun w => by rw [q7]; exact g2.2.2.2 w⟩, g3⟩) (fun j hj => by
          rw [if_neg (show ¬ j = n by omega)]
          by_cases cj : j + 1 = n
          · rw [if_pos cj]
            exact t3 j (by omega)
          · rw [if_neg cj]
            exact t2 j (by omega)) (fun j hj => by
          by_cases cj : j = n
          · rw [if_pos cj]; exact e0
          · rw [if_neg cj]
            have := t3 j (by omega)
            omega)
        rw [vau_vau, vau_at, upd_upd] at g1
        refine ⟨N, tk', pl', Ac', Bc', F', A', B', ?_, by rw [m1]; exact g2, g3, fun c q1 q2 => by rw [g4 c q1 q2, n4 c q1 q2], fun c q => by rw [g5 c q, n5 c q], fun k hk => by rw [g6 k hk, upd_ne hk], fun c q1 q2 q3 => by rw [g7 c q1 q2 q3, m3.2.1 c q1 q2 q3], fun c q => by rw [g8 c q, m3.2.2 c q]⟩
        rw [hcs, hb, if_pos b2f, n1, Option.bind_some]
        unfold fX9_scan_b58
        rw [nI_1]
        exact g1
    · have n400 : (400 : Int32) < nI n := nI_lt (a := 400) (by omega) (by omega)
      refine ⟨n, tk, pl, _, Bc, F, A, B, ?_, ?_, ⟨h2, fun j hj => tok_wr t1 hj, t2, fun q => absurd q c⟩, fun c q1 q2 => by rw [vau_ne q2, vau_ne q1], fun _ _ => rfl, fun _ _ => rfl, fun _ _ _ _ => rfl, fun _ _ => rfl⟩
      · rw [fX9_scan_b10, if_neg ci2, if_neg nle, cg9_4 rfl, Option.bind_some]
        try dsimp only
        rw [a3, if_pos n400]
        exact scan_full h2 a3
      · rw [fX12_cut_b7, mg_10, Option.bind_some]
        try dsimp only
        rw [e4, if_pos n400]
