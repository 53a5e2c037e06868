/-! ===== lay, lift, move, undo ===== -/
/-- the third part of Core -/
def C3 (F : Nat → Int32) (A : Nat → Nat → Int32) (Fc Ac : Nat → Nat → Int32) (T : TD) (u w : Nat) (ps : Nat → AP) : Prop := u ≤ 50 ∧ w < 50 ∧ F 55 = nI u ∧ Fc 49 0 = nI u ∧ Fc 49 1 = nI w ∧ (∀ j, j ≤ u → GoodP (tNb T) (ps j)) ∧ (∀ j, j < u → MPile A 35 (20 * j) (ps j)) ∧ MPile A 30 0 (ps u) ∧ CPile Fc Ac 38 (ps u) ∧ Ring Ac w u ps
section ST3
variable {F F' : Nat → Int32} {A A' : Nat → Nat → Int32} {B B' : Nat → Nat → Int64} {Fc Fc' Ac Ac' : Nat → Nat → Int32} {Bc Bc' : Nat → Nat → Int64} {rc rc' : Nat → Nat} {t lv : Nat} {T : TD} {u w u' w' : Nat} {ps ps' : Nat → AP} {n7 : Nat} {sp : Nat → AP}
theorem Core.set3 (h : Core F A B Fc Ac Bc rc t lv T u w ps n7 sp) (hF : F' 17 = F 17 ∧ F' 18 = F 18 ∧ F' 62 = F 62) (hA : ∀ c, KM c → ¬ c = 30 → ¬ c = 35 → A' c = A c) (hB : B' 7 = B 7) (hFc : Fc' 37 4 = Fc 37 4 ∧ Fc' 69 0 = Fc 69 0 ∧ ∀ c, KF t c → ¬ c = 38 → ¬ c = 49 → Fc' c = Fc c) (hAc : ∀ c, KA t c → ¬ (39 ≤ c ∧ c ≤ 41) → ¬ (50 ≤ c ∧ c ≤ 53) → Ac' c = Ac c) (hr : Bc' 3 = Bc 3 ∧ rc' 0 = rc 0 ∧ rc' 1 = rc 1) (h3 : C3 F' A' Fc' Ac' T u' w' ps') : Core F' A' B' Fc' Ac' Bc' rc' t lv T u' w' ps' n7 sp := by
  have t1 := h.t7
  obtain ⟨⟨a1, a2, a3, a4, a5⟩, ⟨b1, b2, b3⟩, _, d1, ⟨e1, e2, e3, e4⟩, f1, f2⟩ := h
  obtain ⟨m1, m2, m4⟩ := hF
  obtain ⟨k1, k2, k3⟩ := hFc
  obtain ⟨k5, k6, k7⟩ := hr
  refine ⟨⟨by rw [k7]; exact a1, by rw [k6]; exact a2, a3, by rw [m2]; exact a4, by rw [k1, m1]; exact a5⟩, ⟨b1, ?_, b3.eq (k3 t (Or.inl rfl) (by omega) (by omega)) (fun c g1 g2 g3 => hAc c (Or.inl ⟨g1, g2, g3⟩) (by omega) (by omega))⟩, h3, ?_, ⟨e1, by rw [m4]; exact e2, by rw [k2]; exact e3, ?_⟩, by rw [hB]; exact f1, by rw [k5]; exact f2⟩
  · have q : ∀ c, (9 ≤ c ∧ c ≤ 16) ∨ (18 ≤ c ∧ c ≤ 26) → A' c = A c := fun c hc => hA c (by unfold KM; omega) (by omega) (by omega)
    obtain ⟨h1, h2, h3, h4, h5, h6⟩ := b2
    unfold MText
    rw [q 9 (by omega), q 10 (by omega), q 11 (by omega), q 12 (by omega), q 13 (by omega), q 14 (by omega), q 15 (by omega), q 16 (by omega), q 18 (by omega), q 19 (by omega)]
    refine ⟨h1, h2, h3, h4, h5, fun b hb => ?_⟩
    have h7 := h6 b hb
    cases hq : tLw T b with
    | none => rw [hq] at h7; exact h7
    | some f => rw [hq] at h7; exact LawM.eq h7 (fun c g1 g2 => q c (by omega))
  · intro s hs
    obtain ⟨g1, g2, g3⟩ := d1 s hs
    rw [hA 42 (by unfold KM; omega) (by omega) (by omega), hAc 56 (by unfold KA; omega) (by omega) (by omega)]
    refine ⟨g1, g2, fun h1 => ?_⟩
    obtain ⟨P, p1, p2, p3⟩ := g3 h1
    exact ⟨P, p1, p2.eq (hA 43 (by unfold KM; omega) (by omega) (by omega)), p3.eq (k3 _ (by unfold KF; omega) (by omega) (by omega)) (hAc _ (by unfold KA; omega) (by omega) (by omega)) (hAc _ (by unfold KA; omega) (by omega) (by omega)) (hAc _ (by unfold KA; omega) (by omega) (by omega))⟩
  · intro j hj
    obtain ⟨g1, g2, g3⟩ := e4 j hj
    rw [hA 39 (by unfold KM; omega) (by omega) (by omega)]
    exact ⟨g1, g2.eq (hA 38 (by unfold KM; omega) (by omega) (by omega)), g3.eq (k3 _ (by unfold KF; omega) (by omega) (by omega)) (fun c q1 q2 => hAc c (by unfold KA; omega) (by omega) (by omega))⟩
theorem Core.c3 (h : Core F A B Fc Ac Bc rc t lv T u w ps n7 sp) : C3 F A Fc Ac T u w ps := h.2.2.1
/-- the model keeps the pile that was, and takes the row -/
theorem m_keeps (B : Nat → Nat → Int64) (hu : u ≤ 50) (h55 : F 55 = nI u) (hh : ∀ j, j < u → MPile A 35 (20 * j) (ps j)) (hn : MPile A 30 0 (ps u)) {P : AP} (hP : ∀ j, j ≤ u → (ps j).1 ≤ 6) (hP2 : P.1 ≤ 6) (hr : MPile A 31 0 P) : ∃ F' A', fX12_keeps 0 (mkM F A B) = some ((), mkM F' A' B) ∧ (F' 55 = nI (min (u + 1) 50) ∧ ∀ k, ¬ k = 55 → F' k = F k) ∧ (∀ c, ¬ c = 30 → ¬ c = 35 → A' c = A c) ∧ (∀ j, j < min (u + 1) 50 → MPile A' 35 (20 * j) (psN ps u P j)) ∧ MPile A' 30 0 P := by
  /- from a store with u < 50 on -/
  have low : ∀ (F : Nat → Int32) (A : Nat → Nat → Int32) (u : Nat) (ps : Nat → AP), u < 50 → F 55 = nI u → (∀ j, j < u → MPile A 35 (20 * j) (ps j)) → MPile A 30 0 (ps u) → (∀ j, j ≤ u → (ps j).1 ≤ 6) → MPile A 31 0 P → ∃ F' A', fX12_keeps_b49 0 (mkM F A B) = some ((), mkM F' A' B) ∧ (F' 55 = nI (u + 1) ∧ ∀ k, ¬ k = 55 → F' k = F k) ∧ (∀ c, ¬ c = 30 → ¬ c = 35 → A' c = A c) ∧ (∀ j, j ≤ u → MPile A' 35 (20 * j) (ps j)) ∧ MPile A' 30 0 P := by
    intro F A u ps hu h55 hh hn hP hr
    unfold fX12_keeps_b49
    have e1 := m_cp4 (A := A) (B := B) h55 hu 20 0 FU (by omega) (by decide)
    rw [cpA_0, vau_id] at e1
    rw [show (0 : Int32) = nI 0 from rfl, e1]
    unfold fX12_keeps_b83
    simp (disch := first | assumption | omega | decide | exact And.intro (by omega) (by omega)) only [mck, mg_0, mp_0, mr_1, mg_2, mp_2, mr_3, mg_4, mp_4, mr_5, mr_6, mr_7, mr_8, mr_9, mg_10, mp_10, mg_11, mp_11, mg_12, mp_12, mg_13, mp_13, mg_14, mp_14, mg_15, mp_15, mg_16, mp_16, mg_17, mp_17, mg_18, mp_18, mg_19, mp_19, mg_20, mp_20, mr_21, mr_22, mr_23, mr_24, mr_25, mr_26, mr_27, mr_28, mr_29, mr_30, mr_31, mr_32, mg_33, mp_33, mr_34, mr_35, mr_36, mr_37, mr_38, mg_39, mp_39, mr_40, mr_41, mr_42, mg_43, mp_43, mr_44, mr_45, mg_46, mp_46, mr_47, mr_48, mg_49, mp_49, mg_50, mp_50, mg_51, mp_51, mr_52, mr_53, mr_54, mg_55, mp_55, mr_56, mr_57, mg_58, mp_58, mg_59, mp_59, mg_60, mp_60, mr_61, mg_62, mp_62, mr_63, mr_64, mr_65, mr_66, mr_67, mr_68, ma_1, ms_1, ma_2, ms_2, ma_3, ms_3, ma_4, ms_4, ma_5, ms_5, ma_6, ms_6, ma_7, ms_7, ma_8, ms_8, ma_9, ms_9, ma_10, ms_10, ma_11, ms_11, ma_12, ms_12, ma_13, ms_13, ma_14, ms_14, ma_15, ms_15, ma_16, ms_16, ma_17, ms_17, ma_18, ms_18, ma_19, ms_19, ma_20, ms_20, ma_21, ms_21, ma_22, ms_22, ma_23, ms_23, ma_24, ms_24, ma_25, ms_25, ma_26, ms_26, ma_27, ms_27, ma_28, ms_28, ma_29, ms_29, ma_30, ms_30, ma_31, ms_31, ma_32, ms_32, ma_33, ms_33, ma_34, ms_34, ma_35, ms_35, ma_36, ms_36, ma_37, ms_37, ma_38, ms_38, ma_39, ms_39, ma_40, ms_40, ma_41, ms_41, ma_42, ms_42, ma_43, ms_43, if_true, if_false, Option.bind_some, cb, lt, nI_1, hs_nar2, nh4, upd_at, vau_at, ma_30_18, ms_30_18, ma_31_18, ms_31_18, ma_28_0, ms_28_0, ma_28_1, ms_28_1, ma_28_2, ms_28_2, ma_28_3, ms_28_3, ma_28_4, ms_28_4, ma_42_0, ms_42_0, ma_42_1, ms_42_1, ma_42_2, ms_42_2, ma_36_0, ms_36_0, h55]
    have e2 := m_cp3 (F := upd F 55 (nI (u + 1))) (A := va_up A 35 (cpA (A 35) (A 30) (20 * u) 0 20)) (B := B) 20 0 FU (by omega) (by decide)
    rw [cpA_0, vau_id] at e2
    rw [show (0 : Int32) = nI 0 from rfl, e2]
    have k35 : va_up (va_up A 35 (cpA (A 35) (A 30) (20 * u) 0 20)) 30 (cpA (va_up A 35 (cpA (A 35) (A 30) (20 * u) 0 20) 30) (va_up A 35 (cpA (A 35) (A 30) (20 * u) 0 20) 31) 0 0 20) 35 = cpA (A 35) (A 30) (20 * u) 0 20 := by
      rw [vau_ne (by decide), vau_at]
    refine ⟨_, _, rfl, ⟨upd_at _ _ _, fun k hk => upd_ne hk⟩, fun c h1 h2 => by rw [vau_ne h1, vau_ne h2], fun j hj => ?_, ?_⟩
    · have h6 := hP j hj
      unfold MPile
      rw [k35]
      by_cases c : j = u
      · subst c
        have q : ∀ k, k < 20 → cpA (A 35) (A 30) (20 * j) 0 20 (20 * j + k) = A 30 (0 + k) := fun k hk => cpA_in hk
        refine ⟨by rw [q 18 (by omega)]; exact hn.1, fun i hi => ?_⟩
        rw [q i (by omega), Nat.add_assoc, q (6 + i) (by omega), Nat.add_assoc, q (12 + i) (by omega)]
        have := hn.2 i hi
        simpa only [Nat.add_assoc] using this
      · have q : ∀ k, k < 20 → cpA (A 35) (A 30) (20 * u) 0 20 (20 * j + k) = A 35 (20 * j + k) := fun k hk => cpA_out (by omega)
        have hj2 := hh j (by omega)
        refine ⟨by rw [q 18 (by omega)]; exact hj2.1, fun i hi => ?_⟩
        rw [q i (by omega), Nat.add_assoc, q (6 + i) (by omega), Nat.add_assoc, q (12 + i) (by omega)]
        have := hj2.2 i hi
        simpa only [Nat.add_assoc] using this
    · unfold MPile
      rw [vau_at]
      have q : ∀ k, k < 20 → cpA (va_up A 35 (cpA (A 35) (A 30) (20 * u) 0 20) 30) (va_up A 35 (cpA (A 35) (A 30) (20 * u) 0 20) 31) 0 0 20 (0 + k) = A 31 (0 + k) := fun k hk => by
        rw [cpA_in hk, vau_ne (by decide)]
      refine ⟨by rw [q 18 (by omega)]; exact hr.1, fun i hi => ?_⟩
      rw [q i (by omega), Nat.add_assoc, q (6 + i) (by omega), Nat.add_assoc, q (12 + i) (by omega)]
      have := hr.2 i hi
      simpa only [Nat.add_assoc] using this
  unfold fX12_keeps
  simp (disch := first | assumption | omega | decide | exact And.intro (by omega) (by omega)) only [mck, mg_0, mp_0, mr_1, mg_2, mp_2, mr_3, mg_4, mp_4, mr_5, mr_6, mr_7, mr_8, mr_9, mg_10, mp_10, mg_11, mp_11, mg_12, mp_12, mg_13, mp_13, mg_14, mp_14, mg_15, mp_15, mg_16, mp_16, mg_17, mp_17, mg_18, mp_18, mg_19, mp_19, mg_20, mp_20, mr_21, mr_22, mr_23, mr_24, mr_25, mr_26, mr_27, mr_28, mr_29, mr_30, mr_31, mr_32, mg_33, mp_33, mr_34, mr_35, mr_36, mr_37, mr_38, mg_39, mp_39, mr_40, mr_41, mr_42, mg_43, mp_43, mr_44, mr_45, mg_46, mp_46, mr_47, mr_48, mg_49, mp_49, mg_50, mp_50, mg_51, mp_51, mr_52, mr_53, mr_54, mg_55, mp_55, mr_56, mr_57, mg_58, mp_58, mg_59, mp_59, mg_60, mp_60, mr_61, mg_62, mp_62, mr_63, mr_64, mr_65, mr_66, mr_67, mr_68, ma_1, ms_1, ma_2, ms_2, ma_3, ms_3, ma_4, ms_4, ma_5, ms_5, ma_6, ms_6, ma_7, ms_7, ma_8, ms_8, ma_9, ms_9, ma_10, ms_10, ma_11, ms_11, ma_12, ms_12, ma_13, ms_13, ma_14, ms_14, ma_15, ms_15, ma_16, ms_16, ma_17, ms_17, ma_18, ms_18, ma_19, ms_19, ma_20, ms_20, ma_21, ms_21, ma_22, ms_22, ma_23, ms_23, ma_24, ms_24, ma_25, ms_25, ma_26, ms_26, ma_27, ms_27, ma_28, ms_28, ma_29, ms_29, ma_30, ms_30, ma_31, ms_31, ma_32, ms_32, ma_33, ms_33, ma_34, ms_34, ma_35, ms_35, ma_36, ms_36, ma_37, ms_37, ma_38, ms_38, ma_39, ms_39, ma_40, ms_40, ma_41, ms_41, ma_42, ms_42, ma_43, ms_43, if_true, if_false, Option.bind_some, cb, lt, nI_1, hs_nar2, nh4, upd_at, vau_at, ma_30_18, ms_30_18, ma_31_18, ms_31_18, ma_28_0, ms_28_0, ma_28_1, ms_28_1, ma_28_2, ms_28_2, ma_28_3, ms_28_3, ma_28_4, ms_28_4, ma_42_0, ms_42_0, ma_42_1, ms_42_1, ma_42_2, ms_42_2, ma_36_0, ms_36_0, h55]
  by_cases c : u = 50
  · subst c
    rw [if_pos (show nI 50 = 50 from rfl)]
    obtain ⟨g, e1, e2⟩ := m_cp5 (F := F) (A := A) (B := B) 980 0 FU (by omega) (by decide) (A 35) (fun _ _ => rfl) (fun x hx => by omega)
    rw [vau_id] at e1
    rw [show (0 : Int32) = nI 0 from rfl, e1]
    unfold fX12_keeps_b39
    simp (disch := first | assumption | omega | decide | exact And.intro (by omega) (by omega)) only [mck, mg_0, mp_0, mr_1, mg_2, mp_2, mr_3, mg_4, mp_4, mr_5, mr_6, mr_7, mr_8, mr_9, mg_10, mp_10, mg_11, mp_11, mg_12, mp_12, mg_13, mp_13, mg_14, mp_14, mg_15, mp_15, mg_16, mp_16, mg_17, mp_17, mg_18, mp_18, mg_19, mp_19, mg_20, mp_20, mr_21, mr_22, mr_23, mr_24, mr_25, mr_26, mr_27, mr_28, mr_29, mr_30, mr_31, mr_32, mg_33, mp_33, mr_34, mr_35, mr_36, mr_37, mr_38, mg_39, mp_39, mr_40, mr_41, mr_42, mg_43, mp_43, mr_44, mr_45, mg_46, mp_46, mr_47, mr_48, mg_49, mp_49, mg_50, mp_50, mg_51, mp_51, mr_52, mr_53, mr_54, mg_55, mp_55, mr_56, mr_57, mg_58, mp_58, mg_59, mp_59, mg_60, mp_60, mr_61, mg_62, mp_62, mr_63, mr_64, mr_65, mr_66, mr_67, mr_68, ma_1, ms_1, ma_2, ms_2, ma_3, ms_3, ma_4, ms_4, ma_5, ms_5, ma_6, ms_6, ma_7, ms_7, ma_8, ms_8, ma_9, ms_9, ma_10, ms_10, ma_11, ms_11, ma_12, ms_12, ma_13, ms_13, ma_14, ms_14, ma_15, ms_15, ma_16, ms_16, ma_17, ms_17, ma_18, ms_18, ma_19, ms_19, ma_20, ms_20, ma_21, ms_21, ma_22, ms_22, ma_23, ms_23, ma_24, ms_24, ma_25, ms_25, ma_26, ms_26, ma_27, ms_27, ma_28, ms_28, ma_29, ms_29, ma_30, ms_30, ma_31, ms_31, ma_32, ms_32, ma_33, ms_33, ma_34, ms_34, ma_35, ms_35, ma_36, ms_36, ma_37, ms_37, ma_38, ms_38, ma_39, ms_39, ma_40, ms_40, ma_41, ms_41, ma_42, ms_42, ma_43, ms_43, if_true, if_false, Option.bind_some, cb, lt, nI_1, hs_nar2, nh4, upd_at, vau_at, ma_30_18, ms_30_18, ma_31_18, ms_31_18, ma_28_0, ms_28_0, ma_28_1, ms_28_1, ma_28_2, ms_28_2, ma_28_3, ms_28_3, ma_28_4, ms_28_4, ma_42_0, ms_42_0, ma_42_1, ms_42_1, ma_42_2, ms_42_2, ma_36_0, ms_36_0, h55]
    have e49 : nI 50 - 1 = nI 49 := by decide
    rw [e49]
    obtain ⟨F', A', z1, ⟨z2, z3⟩, z4, z5, z6⟩ := low (upd F 55 (nI 49)) (va_up A 35 g) 49 (fun j => ps (j + 1)) (by omega) (upd_at _ _ _) (fun j hj => by
      have hj2 := hh (j + 1) (by omega)
      have h6 := hP (j + 1) (by omega)
      unfold MPile
      rw [vau_at]
      refine ⟨?_, fun i hi => ?_⟩
      · rw [e2 _ (by omega), show 20 * j + 18 + 20 = 20 * (j + 1) + 18 by omega]; exact hj2.1
      · have hi2 : i < (ps (j + 1)).1 := hi
        rw [e2 _ (by omega), e2 _ (by omega), e2 _ (by omega), show 20 * j + i + 20 = 20 * (j + 1) + i by omega, show 20 * j + 6 + i + 20 = 20 * (j + 1) + 6 + i by omega, show 20 * j + 12 + i + 20 = 20 * (j + 1) + 12 + i by omega]
        exact hj2.2 i hi2) (hn.eq (vau_ne (by decide))) (fun j hj => hP (j + 1) (by omega)) (hr.eq (vau_ne (by decide)))
    refine ⟨F', A', z1, ⟨z2, fun k hk => by rw [z3 k hk, upd_ne hk]⟩, fun c h1 h2 => by rw [z4 c h1 h2, vau_ne h2], fun j hj => ?_, z6⟩
    unfold psN
    rw [if_neg (by omega), if_neg (by omega)]
    exact z5 j (by omega)
  · have c50 : ¬ nI u = (50 : Int32) := fun q => c ((nI_eq (a := u) (b := 50) (by omega) (by decide)).1 q)
    rw [if_neg c50]
    obtain ⟨F', A', z1, ⟨z2, z3⟩, z4, z5, z6⟩ := low F A u ps (by omega) h55 hh hn hP hr
    refine ⟨F', A', z1, ⟨by rw [z2]; congr 1; omega, z3⟩, z4, fun j hj => ?_, z6⟩
    unfold psN
    rw [if_pos (by omega), if_neg (by omega)]
    exact z5 j (by omega)
end ST3
