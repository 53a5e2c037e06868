/-! ===== calls that look at the pile ===== -/
theorem Tape.eq {F F' : Nat → Int32} {A A' Fc Fc' Ac Ac' : Nat → Nat → Int32} (h : Tape F A Fc Ac) (t1 : F' 2 = F 2) (t2 : A' 1 = A 1) (t3 : Fc' 0 1 = Fc 0 1) (t4 : Ac' 1 = Ac 1) : Tape F' A' Fc' Ac' := by
  obtain ⟨n, h1, h2, h3, h4⟩ := h
  exact ⟨n, h1, t1.trans h2, t3.trans h3, fun i hi => by rw [t2, t4]; exact h4 i hi⟩
section ST
variable {F F' : Nat → Int32} {A A' : Nat → Nat → Int32} {B B' : Nat → Nat → Int64} {Fc Fc' Ac Ac' : Nat → Nat → Int32} {Bc Bc' : Nat → Nat → Int64} {rc rc' : Nat → Nat} {t lv : Nat} {T : TD} {u w : Nat} {ps : Nat → AP} {n7 : Nat} {sp : Nat → AP}
theorem rel_mk (hT : Tape F A Fc Ac) (hC : Core F A B Fc Ac Bc rc t lv T u w ps n7 sp) (hm : MEq F F' A A' B B') (hc : CEq t Fc Fc' Ac Ac' Bc Bc' rc rc') (t1 : F' 2 = F 2) (t2 : A' 1 = A 1) (t3 : Fc' 0 1 = Fc 0 1) (t4 : Ac' 1 = Ac 1) : Rel (mkC Fc' Ac' Bc' rc') (mkM F' A' B') :=
  ⟨F', A', B', Fc', Ac', Bc', rc', t, lv, T, u, w, ps, n7, sp, rfl, rfl, hT.eq t1 t2 t3 t4, hC.eq hm hc⟩
theorem Core.t7 (hC : Core F A B Fc Ac Bc rc t lv T u w ps n7 sp) : t = 7 ∨ t = 22 := hC.1.1.elim (fun h => Or.inl h.1) (fun h => Or.inr h.1)
theorem Core.crow (hC : Core F A B Fc Ac Bc rc t lv T u w ps n7 sp) : CRow Fc Ac t T 38 (ps u) :=
  ⟨hC.t7, Or.inl rfl, ⟨hC.2.1.1, hC.2.1.2.2⟩, hC.2.2.1.2.2.2.2.2.2.2.2.1, (hC.2.2.1.2.2.2.2.2.1 u (Nat.le_refl _)).big⟩
theorem Core.goodP (hC : Core F A B Fc Ac Bc rc t lv T u w ps n7 sp) : GoodP (tNb T) (ps u) := hC.2.2.1.2.2.2.2.2.1 u (Nat.le_refl _)
theorem Core.mp (hC : Core F A B Fc Ac Bc rc t lv T u w ps n7 sp) : MPile A 30 0 (ps u) := hC.2.2.1.2.2.2.2.2.2.2.1
/-- a change that copies() makes -/
def MC (F F' : Nat → Int32) (A A' : Nat → Nat → Int32) (B B' : Nat → Nat → Int64) : Prop := (∀ k, ¬ k = 46 → ¬ k = 49 → ¬ k = 50 → ¬ k = 51 → F' k = F k) ∧ (∀ c, ¬ c = 28 → ¬ c = 29 → ¬ c = 31 → ¬ c = 32 → A' c = A c) ∧ ∀ c, ¬ c = 33 → ¬ c = 34 → B' c = B c
theorem MS.mc (h : MS F F' A A' B B') : MC F F' A A' B B' := ⟨fun k h1 _ _ _ => h.1 k h1, fun c h1 h2 _ _ => h.2.1 c h1 h2, h.2.2⟩
theorem MC.tr {F1 F2 : Nat → Int32} {A1 A2 : Nat → Nat → Int32} {B1 B2 : Nat → Nat → Int64} (h : MC F F1 A A1 B B1) (g : MC F1 F2 A1 A2 B1 B2) : MC F F2 A A2 B B2 :=
  ⟨fun k h1 h2 h3 h4 => (g.1 k h1 h2 h3 h4).trans (h.1 k h1 h2 h3 h4), fun c h1 h2 h3 h4 => (g.2.1 c h1 h2 h3 h4).trans (h.2.1 c h1 h2 h3 h4), fun c h1 h2 => (g.2.2 c h1 h2).trans (h.2.2 c h1 h2)⟩
theorem MC.rf : MC F F A A B B := ⟨fun _ _ _ _ _ => rfl, fun _ _ _ _ _ => rfl, fun _ _ _ => rfl⟩
theorem MC.eq (h : MC F F' A A' B B') : MEq F F' A A' B B' :=
  ⟨⟨h.1 _ (by decide) (by decide) (by decide) (by decide), h.1 _ (by decide) (by decide) (by decide) (by decide), h.1 _ (by decide) (by decide) (by decide) (by decide), h.1 _ (by decide) (by decide) (by decide) (by decide)⟩, fun c hc => h.2.1 c (by unfold KM at hc; omega) (by unfold KM at hc; omega) (by unfold KM at hc; omega) (by unfold KM at hc; omega), h.2.2 7 (by decide) (by decide)⟩
theorem core_copies (hC : Core F A B Fc Ac Bc rc t lv T u w ps n7 sp) : ∃ F' A' ma, fX12_copies 0 (mkM F A B) = some ((), mkM F' A' B) ∧ MRow F' A' lv T tr0 (ps u) ∧ More F' (-1) 0 ma ∧ MC F F' A A' B B ∧ ∀ k, k < 20 → A' 31 k = A 30 k := by
  obtain ⟨F', A', h1, ⟨h2, h3, h4⟩, h5, h6, h7⟩ := m_copies F A B
  obtain ⟨ma, q1, q2⟩ := iI_of (F' 51)
  have hc : MC F F' A A' B B := ⟨fun k _ g2 g3 _ => h4 k g2 g3, fun c _ _ g3 g4 => h7 c g3 g4, fun _ _ _ => rfl⟩
  have h8 := hC.goodP
  refine ⟨F', A', ma, h1, ⟨⟨(h4 18 (by decide) (by decide)).trans hC.1.2.2.2.1, hC.1.2.2.1⟩, ⟨hC.2.1.1, hC.2.1.2.1.eq hc.eq.2.1⟩, ⟨⟨?_, fun i hi => ?_⟩, h8.big⟩, Tr0, fun b hb => by rw [h6 b hb]; rfl⟩, ⟨⟨h3, h2, q2⟩, ⟨by decide, by decide⟩, ⟨by decide, by decide⟩, fun q => absurd q (by decide)⟩, hc, h5⟩
  · rw [h5 _ (by omega)]
    exact hC.mp.1
  · have h9 := h8.1
    rw [h5 _ (by omega), h5 _ (by omega), h5 _ (by omega)]
    exact hC.mp.2 i hi
theorem in01 (x : Int) : fX12_in = fX12_in := rfl
theorem m_in {x a b : Int} (hx : in32 x) (ha : in32 a) (hb : in32 b) (σ : Sto) : fX12_in (iI x) (iI a) (iI b) σ = some (b2 (decide (a ≤ x ∧ x ≤ b)), σ) := by
  unfold fX12_in
  by_cases c1 : x < a
  · rw [if_pos ((iI_lt hx ha).2 c1), decide_eq_false (by omega)]
    rfl
  · rw [if_neg (fun q => c1 ((iI_lt hx ha).1 q))]
    by_cases c2 : b < x
    · rw [if_pos ((iI_lt hb hx).2 c2), decide_eq_false (by omega)]
      rfl
    · rw [if_neg (fun q => c2 ((iI_lt hb hx).1 q)), decide_eq_true (by omega)]
      rfl
theorem rZ_b2 (b : Bool) (σ : Sto) : rZ (b2 b) σ = some (b2 b, σ) := by
  cases b <;> rfl
theorem m_isBook {x : Int} (hx : in32 x) (h1 : F 18 = nI lv) (h2 : lv ≤ 1) {nb : Nat} (h3 : A 9 lv = nI nb) (h4 : nb ≤ 6) : fX12_isBook 0 (iI x) (mkM F A B) = some (b2 (decide (0 ≤ x ∧ x < nb)), mkM F A B) := by
  unfold fX12_isBook
  have e1 : nI nb - 1 = iI ((nb : Int) - 1) := iI_sub (nb : Int) 1
  have e0 : (0 : Int32) = iI 0 := rfl
  simp (disch := first | assumption | omega | decide | exact And.intro (by omega) (by omega)) only [mck, mg_0, mp_0, mr_1, mg_2, mp_2, mr_3, mg_4, mp_4, mr_5, mr_6, mr_7, mr_8, mr_9, mg_10, mp_10, mg_11, mp_11, mg_12, mp_12, mg_13, mp_13, mg_14, mp_14, mg_15, mp_15, mg_16, mp_16, mg_17, mp_17, mg_18, mp_18, mg_19, mp_19, mg_20, mp_20, mr_21, mr_22, mr_23, mr_24, mr_25, mr_26, mr_27, mr_28, mr_29, mr_30, mr_31, mr_32, mg_33, mp_33, mr_34, mr_35, mr_36, mr_37, mr_38, mg_39, mp_39, mr_40, mr_41, mr_42, mg_43, mp_43, mr_44, mr_45, mg_46, mp_46, mr_47, mr_48, mg_49, mp_49, mg_50, mp_50, mg_51, mp_51, mr_52, mr_53, mr_54, mg_55, mp_55, mr_56, mr_57, mg_58, mp_58, mg_59, mp_59, mg_60, mp_60, mr_61, mg_62, mp_62, mr_63, mr_64, mr_65, mr_66, mr_67, mr_68, ma_1, ms_1, ma_2, ms_2, ma_3, ms_3, ma_4, ms_4, ma_5, ms_5, ma_6, ms_6, ma_7, ms_7, ma_8, ms_8, ma_9, ms_9, ma_10, ms_10, ma_11, ms_11, ma_12, ms_12, ma_13, ms_13, ma_14, ms_14, ma_15, ms_15, ma_16, ms_16, ma_17, ms_17, ma_18, ms_18, ma_19, ms_19, ma_20, ms_20, ma_21, ms_21, ma_22, ms_22, ma_23, ms_23, ma_24, ms_24, ma_25, ms_25, ma_26, ms_26, ma_27, ms_27, ma_28, ms_28, ma_29, ms_29, ma_30, ms_30, ma_31, ms_31, ma_32, ms_32, ma_33, ms_33, ma_34, ms_34, ma_35, ms_35, ma_36, ms_36, ma_37, ms_37, ma_38, ms_38, ma_39, ms_39, ma_40, ms_40, ma_41, ms_41, ma_42, ms_42, ma_43, ms_43, if_true, if_false, Option.bind_some, cb, lt, nI_1, hs_nar2, nh4, upd_at, vau_at, ma_30_18, ms_30_18, ma_31_18, ms_31_18, ma_28_0, ms_28_0, ma_28_1, ms_28_1, ma_28_2, ms_28_2, ma_28_3, ms_28_3, ma_28_4, ms_28_4, ma_42_0, ms_42_0, ma_42_1, ms_42_1, ma_42_2, ms_42_2, ma_36_0, ms_36_0, h1, h3, e1]
  rw [e0, m_in hx ⟨by decide, by decide⟩ ⟨by omega, by omega⟩]
  simp only [Option.bind_some, rZ_b2]
  congr 4
  exact propext ⟨fun q => by omega, fun q => by omega⟩
theorem m_isLevel {x : Int} (hx : in32 x) {n : Nat} (h3 : A 30 18 = nI n) (h4 : n ≤ 6) : fX12_isLevel 0 (iI x) (mkM F A B) = some (b2 (decide (0 ≤ x ∧ x < n)), mkM F A B) := by
  unfold fX12_isLevel
  have e1 : nI n - 1 = iI ((n : Int) - 1) := iI_sub (n : Int) 1
  have e0 : (0 : Int32) = iI 0 := rfl
  simp (disch := first | assumption | omega | decide | exact And.intro (by omega) (by omega)) only [mck, mg_0, mp_0, mr_1, mg_2, mp_2, mr_3, mg_4, mp_4, mr_5, mr_6, mr_7, mr_8, mr_9, mg_10, mp_10, mg_11, mp_11, mg_12, mp_12, mg_13, mp_13, mg_14, mp_14, mg_15, mp_15, mg_16, mp_16, mg_17, mp_17, mg_18, mp_18, mg_19, mp_19, mg_20, mp_20, mr_21, mr_22, mr_23, mr_24, mr_25, mr_26, mr_27, mr_28, mr_29, mr_30, mr_31, mr_32, mg_33, mp_33, mr_34, mr_35, mr_36, mr_37, mr_38, mg_39, mp_39, mr_40, mr_41, mr_42, mg_43, mp_43, mr_44, mr_45, mg_46, mp_46, mr_47, mr_48, mg_49, mp_49, mg_50, mp_50, mg_51, mp_51, mr_52, mr_53, mr_54, mg_55, mp_55, mr_56, mr_57, mg_58, mp_58, mg_59, mp_59, mg_60, mp_60, mr_61, mg_62, mp_62, mr_63, mr_64, mr_65, mr_66, mr_67, mr_68, ma_1, ms_1, ma_2, ms_2, ma_3, ms_3, ma_4, ms_4, ma_5, ms_5, ma_6, ms_6, ma_7, ms_7, ma_8, ms_8, ma_9, ms_9, ma_10, ms_10, ma_11, ms_11, ma_12, ms_12, ma_13, ms_13, ma_14, ms_14, ma_15, ms_15, ma_16, ms_16, ma_17, ms_17, ma_18, ms_18, ma_19, ms_19, ma_20, ms_20, ma_21, ms_21, ma_22, ms_22, ma_23, ms_23, ma_24, ms_24, ma_25, ms_25, ma_26, ms_26, ma_27, ms_27, ma_28, ms_28, ma_29, ms_29, ma_30, ms_30, ma_31, ms_31, ma_32, ms_32, ma_33, ms_33, ma_34, ms_34, ma_35, ms_35, ma_36, ms_36, ma_37, ms_37, ma_38, ms_38, ma_39, ms_39, ma_40, ms_40, ma_41, ms_41, ma_42, ms_42, ma_43, ms_43, if_true, if_false, Option.bind_some, cb, lt, nI_1, hs_nar2, nh4, upd_at, vau_at, ma_30_18, ms_30_18, ma_31_18, ms_31_18, ma_28_0, ms_28_0, ma_28_1, ms_28_1, ma_28_2, ms_28_2, ma_28_3, ms_28_3, ma_28_4, ms_28_4, ma_42_0, ms_42_0, ma_42_1, ms_42_1, ma_42_2, ms_42_2, ma_36_0, ms_36_0, h3, e1]
  rw [e0, m_in hx ⟨by decide, by decide⟩ ⟨by omega, by omega⟩]
  simp only [Option.bind_some, rZ_b2]
  congr 4
  exact propext ⟨fun q => by omega, fun q => by omega⟩
theorem c_isBook {x : Int} (hx : in32 x) (hr : rc 0 = t) (ht : t = 7 ∨ t = 22) {nb : Nat} (h3 : Fc t 0 = nI nb) (h4 : nb ≤ 6) : fX11_isBook 0 (iI x) (mkC Fc Ac Bc rc) = some (b2 (decide (0 ≤ x ∧ x < nb)), mkC Fc Ac Bc rc) := by
  obtain ⟨k0, _⟩ := TA_of ht
  unfold fX11_isBook
  simp (disch := first | assumption | omega | decide | exact And.intro (by omega) (by omega)) only [cck_0, cr0_0, cr0_1, cr0_2, cr0_3, cg0_4, cp0_4, cg0_5, cp0_5, cck_1, cg1_0, cp1_0, cr1_1, cr1_2, cr1_3, cg1_4, cp1_4, cg1_5, cp1_5, cr1_6, cr1_7, cck_2, cr2_0, cr2_1, cr2_2, cck_3, cr3_0, cr3_1, cg3_2, cp3_2, cg3_3, cp3_3, cg3_4, cp3_4, cg3_5, cp3_5, cg3_6, cp3_6, cg3_7, cp3_7, cg3_8, cp3_8, cck_4, cg4_0, cp4_0, cg4_1, cp4_1, cr4_2, cr4_3, cr4_4, cr4_5, cck_5, cg5_0, cp5_0, cr5_1, cr5_2, cr5_3, cck_6, cg6_0, cp6_0, cg6_1, cp6_1, cck_7, cg7_0, cp7_0, cg7_1, cp7_1, cr7_2, cr7_3, cr7_4, cr7_5, cr7_6, cr7_7, cr7_8, cck_8, cr8_0, cr8_1, cck_9, cr9_0, cr9_1, cr9_2, cr9_3, cg9_4, cp9_4, cck_10, cg10_0, cp10_0, cr10_1, cr10_2, cr10_3, cr10_4, cg10_5, cp10_5, cr10_6, cr10_7, cr10_8, cg10_9, cp10_9, cg10_10, cp10_10, cr10_11, cr10_12, cr10_13, cr10_14, cck_11, cr11_0, cg11_1, cp11_1, cr11_2, cr11_3, cr11_4, cr11_5, cr11_6, cr11_7, cr11_8, cr11_9, cr11_10, cr11_11, cr11_12, cr11_13, cr11_14, ca_30, cs_30, ca_31, cs_31, ca_32, cs_32, ca_33, cs_33, ca_34, cs_34, ca_35, cs_35, ca_36, cs_36, ca_37, cs_37, ca_38, cs_38, ca_39, cs_39, ca_40, cs_40, ca_41, cs_41, ca_42, cs_42, car_20, car_21, car_22, cq11_3, cq11_4, cq3_1, cq0_0, cq0_1, if_true, if_false, Option.bind_some, cb, lt, nI_1, hs_nar2, nh4, upd_at, vau_at, ca_42_0, cs_42_0, hr, h3]
  by_cases c1 : x < 0
  · rw [if_pos ((iI_lt0 hx).2 c1), decide_eq_false (by omega)]
    rfl
  · rw [if_neg (fun q => c1 ((iI_lt0 hx).1 q))]
    have e : (nI nb ≤ iI x) ↔ (nb : Int) ≤ x := iI_le (a := (nb : Int)) ⟨by omega, by omega⟩ hx
    by_cases c2 : (nb : Int) ≤ x
    · rw [if_pos (e.2 c2), decide_eq_false (by omega)]
      rfl
    · rw [if_neg (fun q => c2 (e.1 q)), decide_eq_true (by omega)]
      rfl
theorem c_isLevel {x : Int} (hx : in32 x) {n : Nat} (h3 : Fc 38 0 = nI n) (h4 : n ≤ 6) : fX11_isLevel 0 (iI x) (mkC Fc Ac Bc rc) = some (b2 (decide (0 ≤ x ∧ x < n)), mkC Fc Ac Bc rc) := by
  unfold fX11_isLevel
  simp (disch := first | assumption | omega | decide | exact And.intro (by omega) (by omega)) only [cck_0, cr0_0, cr0_1, cr0_2, cr0_3, cg0_4, cp0_4, cg0_5, cp0_5, cck_1, cg1_0, cp1_0, cr1_1, cr1_2, cr1_3, cg1_4, cp1_4, cg1_5, cp1_5, cr1_6, cr1_7, cck_2, cr2_0, cr2_1, cr2_2, cck_3, cr3_0, cr3_1, cg3_2, cp3_2, cg3_3, cp3_3, cg3_4, cp3_4, cg3_5, cp3_5, cg3_6, cp3_6, cg3_7, cp3_7, cg3_8, cp3_8, cck_4, cg4_0, cp4_0, cg4_1, cp4_1, cr4_2, cr4_3, cr4_4, cr4_5, cck_5, cg5_0, cp5_0, cr5_1, cr5_2, cr5_3, cck_6, cg6_0, cp6_0, cg6_1, cp6_1, cck_7, cg7_0, cp7_0, cg7_1, cp7_1, cr7_2, cr7_3, cr7_4, cr7_5, cr7_6, cr7_7, cr7_8, cck_8, cr8_0, cr8_1, cck_9, cr9_0, cr9_1, cr9_2, cr9_3, cg9_4, cp9_4, cck_10, cg10_0, cp10_0, cr10_1, cr10_2, cr10_3, cr10_4, cg10_5, cp10_5, cr10_6, cr10_7, cr10_8, cg10_9, cp10_9, cg10_10, cp10_10, cr10_11, cr10_12, cr10_13, cr10_14, cck_11, cr11_0, cg11_1, cp11_1, cr11_2, cr11_3, cr11_4, cr11_5, cr11_6, cr11_7, cr11_8, cr11_9, cr11_10, cr11_11, cr11_12, cr11_13, cr11_14, ca_30, cs_30, ca_31, cs_31, ca_32, cs_32, ca_33, cs_33, ca_34, cs_34, ca_35, cs_35, ca_36, cs_36, ca_37, cs_37, ca_38, cs_38, ca_39, cs_39, ca_40, cs_40, ca_41, cs_41, ca_42, cs_42, car_20, car_21, car_22, cq11_3, cq11_4, cq3_1, cq0_0, cq0_1, if_true, if_false, Option.bind_some, cb, lt, nI_1, hs_nar2, nh4, upd_at, vau_at, ca_42_0, cs_42_0, h3]
  by_cases c1 : x < 0
  · rw [if_pos ((iI_lt0 hx).2 c1), decide_eq_false (by omega)]
    rfl
  · rw [if_neg (fun q => c1 ((iI_lt0 hx).1 q))]
    have e : (nI n ≤ iI x) ↔ (n : Int) ≤ x := iI_le (a := (n : Int)) ⟨by omega, by omega⟩ hx
    by_cases c2 : (n : Int) ≤ x
    · rw [if_pos (e.2 c2), decide_eq_false (by omega)]
      rfl
    · rw [if_neg (fun q => c2 (e.1 q)), decide_eq_true (by omega)]
      rfl
/-- isLevel and isBook of both, by the relation -/
theorem both_level (hC : Core F A B Fc Ac Bc rc t lv T u w ps n7 sp) {x : Int} (hx : in32 x) : fX11_isLevel 0 (iI x) (mkC Fc Ac Bc rc) = some (b2 (decide (0 ≤ x ∧ x < (ps u).1)), mkC Fc Ac Bc rc) ∧ fX12_isLevel 0 (iI x) (mkM F A B) = some (b2 (decide (0 ≤ x ∧ x < (ps u).1)), mkM F A B) := by
  have h := hC.goodP.1
  have h2 := hC.mp.1
  rw [Nat.zero_add] at h2
  exact ⟨c_isLevel hx hC.crow.2.2.2.1.1 h, m_isLevel hx h2 h⟩
theorem both_book (hC : Core F A B Fc Ac Bc rc t lv T u w ps n7 sp) {x : Int} (hx : in32 x) : fX11_isBook 0 (iI x) (mkC Fc Ac Bc rc) = some (b2 (decide (0 ≤ x ∧ x < tNb T)), mkC Fc Ac Bc rc) ∧ fX12_isBook 0 (iI x) (mkM F A B) = some (b2 (decide (0 ≤ x ∧ x < tNb T)), mkM F A B) :=
  ⟨c_isBook hx hC.1.2.1 hC.t7 hC.2.1.2.2.1 hC.2.1.1.1, m_isBook hx hC.1.2.2.2.1 hC.1.2.2.1 hC.2.1.2.1.1 hC.2.1.1.1⟩
theorem nat_of {x : Int} {n : Nat} (h : 0 ≤ x ∧ x < n) : ∃ i : Nat, i < n ∧ x = (i : Int) := ⟨x.toNat, by omega, by omega⟩
end ST
theorem ag_level : Ag_I Rel fX11_level fX12_level := by
  intro σc σm a hR
  obtain ⟨F, A, B, Fc, Ac, Bc, rc, t, lv, T, u, w, ps, n7, sp, rfl, rfl, hT, hC⟩ := id hR
  obtain ⟨x, hx, rfl⟩ := iI_of a
  obtain ⟨b1, b2⟩ := both_level hC hx
  have h6 := hC.goodP.1
  unfold fX11_level fX12_level
  rw [cck_11 rfl, mck, b1, b2]
  simp only [cb, Option.bind_some]
  by_cases c : 0 ≤ x ∧ x < (ps u).1
  · obtain ⟨i, hi, rfl⟩ := nat_of c
    have e1 := (hC.crow.2.2.2.1.2 i hi).1
    have e2 := (hC.mp.2 i hi).1
    rw [Nat.zero_add] at e2
    have e3 : iI (i : Int) = nI i := rfl
    rw [decide_eq_true c, if_neg (by decide), if_neg (by decide), e3]
    refine ⟨nI ((ps u).2.1 i), _, _, ?_, ?_, hR⟩
    · simp (disch := first | assumption | omega | decide | exact And.intro (by omega) (by omega)) only [cck_0, cr0_0, cr0_1, cr0_2, cr0_3, cg0_4, cp0_4, cg0_5, cp0_5, cck_1, cg1_0, cp1_0, cr1_1, cr1_2, cr1_3, cg1_4, cp1_4, cg1_5, cp1_5, cr1_6, cr1_7, cck_2, cr2_0, cr2_1, cr2_2, cck_3, cr3_0, cr3_1, cg3_2, cp3_2, cg3_3, cp3_3, cg3_4, cp3_4, cg3_5, cp3_5, cg3_6, cp3_6, cg3_7, cp3_7, cg3_8, cp3_8, cck_4, cg4_0, cp4_0, cg4_1, cp4_1, cr4_2, cr4_3, cr4_4, cr4_5, cck_5, cg5_0, cp5_0, cr5_1, cr5_2, cr5_3, cck_6, cg6_0, cp6_0, cg6_1, cp6_1, cck_7, cg7_0, cp7_0, cg7_1, cp7_1, cr7_2, cr7_3, cr7_4, cr7_5, cr7_6, cr7_7, cr7_8, cck_8, cr8_0, cr8_1, cck_9, cr9_0, cr9_1, cr9_2, cr9_3, cg9_4, cp9_4, cck_10, cg10_0, cp10_0, cr10_1, cr10_2, cr10_3, cr10_4, cg10_5, cp10_5, cr10_6, cr10_7, cr10_8, cg10_9, cp10_9, cg10_10, cp10_10, cr10_11, cr10_12, cr10_13, cr10_14, cck_11, cr11_0, cg11_1, cp11_1, cr11_2, cr11_3, cr11_4, cr11_5, cr11_6, cr11_7, cr11_8, cr11_9, cr11_10, cr11_11, cr11_12, cr11_13, cr11_14, ca_30, cs_30, ca_31, cs_31, ca_32, cs_32, ca_33, cs_33, ca_34, cs_34, ca_35, cs_35, ca_36, cs_36, ca_37, cs_37, ca_38, cs_38, ca_39, cs_39, ca_40, cs_40, ca_41, cs_41, ca_42, cs_42, car_20, car_21, car_22, cq11_3, cq11_4, cq3_1, cq0_0, cq0_1, if_true, if_false, Option.bind_some, cb, lt, nI_1, hs_nar2, nh4, upd_at, vau_at, ca_42_0, cs_42_0, e1]
    · simp (disch := first | assumption | omega | decide | exact And.intro (by omega) (by omega)) only [mck, mg_0, mp_0, mr_1, mg_2, mp_2, mr_3, mg_4, mp_4, mr_5, mr_6, mr_7, mr_8, mr_9, mg_10, mp_10, mg_11, mp_11, mg_12, mp_12, mg_13, mp_13, mg_14, mp_14, mg_15, mp_15, mg_16, mp_16, mg_17, mp_17, mg_18, mp_18, mg_19, mp_19, mg_20, mp_20, mr_21, mr_22, mr_23, mr_24, mr_25, mr_26, mr_27, mr_28, mr_29, mr_30, mr_31, mr_32, mg_33, mp_33, mr_34, mr_35, mr_36, mr_37, mr_38, mg_39, mp_39, mr_40, mr_41, mr_42, mg_43, mp_43, mr_44, mr_45, mg_46, mp_46, mr_47, mr_48, mg_49, mp_49, mg_50, mp_50, mg_51, mp_51, mr_52, mr_53, mr_54, mg_55, mp_55, mr_56, mr_57, mg_58, mp_58, mg_59, mp_59, mg_60, mp_60, mr_61, mg_62, mp_62, mr_63, mr_64, mr_65, mr_66, mr_67, mr_68, ma_1, ms_1, ma_2, ms_2, ma_3, ms_3, ma_4, ms_4, ma_5, ms_5, ma_6, ms_6, ma_7, ms_7, ma_8, ms_8, ma_9, ms_9, ma_10, ms_10, ma_11, ms_11, ma_12, ms_12, ma_13, ms_13, ma_14, ms_14, ma_15, ms_15, ma_16, ms_16, ma_17, ms_17, ma_18, ms_18, ma_19, ms_19, ma_20, ms_20, ma_21, ms_21, ma_22, ms_22, ma_23, ms_23, ma_24, ms_24, ma_25, ms_25, ma_26, ms_26, ma_27, ms_27, ma_28, ms_28, ma_29, ms_29, ma_30, ms_30, ma_31, ms_31, ma_32, ms_32, ma_33, ms_33, ma_34, ms_34, ma_35, ms_35, ma_36, ms_36, ma_37, ms_37, ma_38, ms_38, ma_39, ms_39, ma_40, ms_40, ma_41, ms_41, ma_42, ms_42, ma_43, ms_43, if_true, if_false, Option.bind_some, cb, lt, nI_1, hs_nar2, nh4, upd_at, vau_at, ma_30_18, ms_30_18, ma_31_18, ms_31_18, ma_28_0, ms_28_0, ma_28_1, ms_28_1, ma_28_2, ms_28_2, ma_28_3, ms_28_3, ma_28_4, ms_28_4, ma_42_0, ms_42_0, ma_42_1, ms_42_1, ma_42_2, ms_42_2, ma_36_0, ms_36_0, e2]
  · rw [decide_eq_false c, if_pos (by decide), if_pos (by decide)]
    exact ⟨_, _, _, rfl, rfl, hR⟩
