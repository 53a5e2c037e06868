/-! ===== the model weighs a pile ===== -/
def MS (F F' : Nat → Int32) (A A' : Nat → Nat → Int32) (B B' : Nat → Nat → Int64) : Prop := (∀ k, ¬ k = 46 → F' k = F k) ∧ (∀ c, ¬ c = 28 → ¬ c = 29 → A' c = A c) ∧ ∀ c, ¬ c = 33 → ¬ c = 34 → B' c = B c
theorem MS.rf {F : Nat → Int32} {A : Nat → Nat → Int32} {B : Nat → Nat → Int64} : MS F F A A B B := ⟨fun _ _ => rfl, fun _ _ _ => rfl, fun _ _ _ => rfl⟩
theorem MS.tr {F F1 F2 : Nat → Int32} {A A1 A2 : Nat → Nat → Int32} {B B1 B2 : Nat → Nat → Int64} (h : MS F F1 A A1 B B1) (g : MS F1 F2 A1 A2 B1 B2) : MS F F2 A A2 B B2 :=
  ⟨fun k hk => (g.1 k hk).trans (h.1 k hk), fun c h1 h2 => (g.2.1 c h1 h2).trans (h.2.1 c h1 h2), fun c h1 h2 => (g.2.2 c h1 h2).trans (h.2.2 c h1 h2)⟩
theorem MS.eq {F F' : Nat → Int32} {A A' : Nat → Nat → Int32} {B B' : Nat → Nat → Int64} (h : MS F F' A A' B B') : MEq F F' A A' B B' :=
  ⟨⟨h.1 _ (by decide), h.1 _ (by decide), h.1 _ (by decide), h.1 _ (by decide)⟩, fun c hc => h.2.1 c (by unfold KM at hc; omega) (by unfold KM at hc; omega), h.2.2 7 (by decide) (by decide)⟩
/-- the row that the model looks at is the pile P, its books tried with the weights tr -/
def MRow (F : Nat → Int32) (A : Nat → Nat → Int32) (lv : Nat) (T : TD) (tr : Nat → Int) (P : AP) : Prop := (F 18 = nI lv ∧ lv ≤ 1) ∧ (GoodT T ∧ MText A lv T) ∧ (MPile A 31 0 P ∧ BigP (tNb T) P) ∧ Tr tr ∧ ∀ b, b < 6 → A 32 b = iI (tr b)
theorem MRow.ms {F F' : Nat → Int32} {A A' : Nat → Nat → Int32} {B B' : Nat → Nat → Int64} {lv : Nat} {T : TD} {tr : Nat → Int} {P : AP} (h : MRow F A lv T tr P) (g : MS F F' A A' B B') : MRow F' A' lv T tr P :=
  ⟨⟨(g.1 18 (by decide)).trans h.1.1, h.1.2⟩, ⟨h.2.1.1, h.2.1.2.eq g.eq.2.1⟩, ⟨h.2.2.1.1.eq (g.2.1 31 (by decide) (by decide)), h.2.2.1.2⟩, h.2.2.2.1, fun b hb => by rw [g.2.1 32 (by decide) (by decide)]; exact h.2.2.2.2 b hb⟩
theorem m_add6 (i : Nat) : (6 : Int32) + nI i = nI (6 + i) := nI_add 6 i
theorem m_add5 (i : Nat) : (5 : Int32) + nI i = nI (5 + i) := nI_add 5 i
theorem m_add12 (i : Nat) : (12 : Int32) + nI i = nI (12 + i) := nI_add 12 i
theorem m_mul6 (a : Nat) : (6 : Int32) * nI a = nI (6 * a) := by
  have : (6 : Int32) = iI 6 := rfl
  rw [this, iI_nI, iI_mul, iI_nI]
  congr 1
theorem m_mul20 (a : Nat) : (20 : Int32) * nI a = nI (20 * a) := by
  have : (20 : Int32) = iI 20 := rfl
  rw [this, iI_nI, iI_mul, iI_nI]
  congr 1
theorem m_top {n i : Nat} (h : i < n) : nI n - 1 - nI i = nI (n - 1 - i) := by
  have : (1 : Int32) = iI 1 := rfl
  rw [this, iI_nI, iI_nI, iI_sub, iI_sub, iI_nI]
  congr 1
  omega
theorem iI_le0 {a : Int} (h : in32 a) : iI a ≤ 0 ↔ a ≤ 0 := iI_le (b := 0) h ⟨by decide, by decide⟩
theorem iI_lt0 {a : Int} (h : in32 a) : iI a < 0 ↔ a < 0 := iI_lt (b := 0) h ⟨by decide, by decide⟩
theorem MRow.at {F : Nat → Int32} {A : Nat → Nat → Int32} {lv : Nat} {T : TD} {tr : Nat → Int} {P : AP} (h : MRow F A lv T tr P) {i : Nat} (hi : i < P.1) : i < 6 ∧ P.1 ≤ 6 ∧ pB P i < tNb T ∧ pB P i < 6 ∧ 6 * lv + pB P i < 12 ∧ A 31 i = nI (pB P i) ∧ A 31 (6 + i) = iI (pP P i) ∧ A 31 (12 + i) = pG P i ∧ (-2199 ≤ pP P i ∧ pP P i ≤ 2199) ∧ A 10 (6 * lv + pB P i) = iI (tLg T (pB P i)) ∧ A 11 (6 * lv + pB P i) = iI (tWt T (pB P i)) ∧ (1 ≤ tLg T (pB P i) ∧ tLg T (pB P i) ≤ 99) := by
  obtain ⟨⟨h1, h2⟩, ⟨h3, h4⟩, ⟨h5, h6⟩, h7, h8⟩ := h
  have e1 := h5.2 i hi
  have e2 := h6.2.1 i hi
  have e3 := h6.2.2.2.1 i hi
  have e4 := h4.2.1 _ e2
  have e5 := h3.1
  have e6 := h6.1
  have e7 := h3.2.1 _ e2
  simp only [Nat.zero_add] at e1
  exact ⟨by omega, e6, e2, by omega, by omega, e1.1, e1.2.1, e1.2.2, e3, e4.1, e4.2, by omega, by omega⟩
theorem MRow.sz {F : Nat → Int32} {A : Nat → Nat → Int32} {lv : Nat} {T : TD} {tr : Nat → Int} {P : AP} (h : MRow F A lv T tr P) : A 31 18 = nI P.1 := by
  have := h.2.2.1.1.1
  simpa only [Nat.zero_add] using this
theorem v5_lawV {g : Nat → Int32} {lg wt pl : Int} {i ab : Nat} (h0 : g 0 = iI lg) (h1 : g 1 = iI wt) (h2 : g 2 = nI i) (h3 : g 3 = iI pl) (h4 : g 4 = nI ab) : v5 g = lawV lg wt i pl ab := by
  funext k
  unfold v5 lawV
  match k with
  | 0 => exact h0
  | 1 => exact h1
  | 2 => exact h2
  | 3 => exact h3
  | k + 4 =>
    rw [show min (k + 4) 4 = 4 by omega, h4]
    rfl
theorem m_weighs {F : Nat → Int32} {A : Nat → Nat → Int32} (B : Nat → Nat → Int64) {lv : Nat} {T : TD} {tr : Nat → Int} {P : AP} (h : MRow F A lv T tr P) {i : Nat} (hi : i < P.1) : ∃ F' A', fX12_weighsAt 0 (nI i) (mkM F A B) = some (iI (wg T tr P i), mkM F' A' B) ∧ MS F F' A A' B B := by
  obtain ⟨a1, a2, a3, a4, a5, a6, a7, a8, a9, a10, a11, a12⟩ := h.at hi
  have hs := h.sz
  obtain ⟨⟨h1, h2⟩, ⟨h3, h4⟩, ⟨h5, h6⟩, h7, h8⟩ := h
  have e8 := h8 _ a4
  have e9 := h7 (pB P i)
  have e10 := h4.2.2.2.2.2 _ a3
  unfold fX12_weighsAt wg
  simp (disch := first | assumption | omega | rfl | exact And.intro (by omega) (by omega)) only [mck, mg_0, mp_0, mr_1, mg_2, mp_2, mr_3, mg_4, mp_4, mr_5, mr_6, mr_7, mr_8, mr_9, mg_10, mp_10, mg_11, mp_11, mg_12, mp_12, mg_13, mp_13, mg_14, mp_14, mg_15, mp_15, mg_16, mp_16, mg_17, mp_17, mg_18, mp_18, mg_19, mp_19, mg_20, mp_20, mr_21, mr_22, mr_23, mr_24, mr_25, mr_26, mr_27, mr_28, mr_29, mr_30, mr_31, mr_32, mg_33, mp_33, mr_34, mr_35, mr_36, mr_37, mr_38, mg_39, mp_39, mr_40, mr_41, mr_42, mg_43, mp_43, mr_44, mr_45, mg_46, mp_46, mr_47, mr_48, mg_49, mp_49, mg_50, mp_50, mg_51, mp_51, mr_52, mr_53, mr_54, mg_55, mp_55, mr_56, mr_57, mg_58, mp_58, mg_59, mp_59, mg_60, mp_60, mr_61, mg_62, mp_62, mr_63, mr_64, mr_65, mr_66, mr_67, mr_68, ma_1, ms_1, ma_2, ms_2, ma_3, ms_3, ma_4, ms_4, ma_5, ms_5, ma_6, ms_6, ma_7, ms_7, ma_8, ms_8, ma_9, ms_9, ma_10, ms_10, ma_11, ms_11, ma_12, ms_12, ma_13, ms_13, ma_14, ms_14, ma_15, ms_15, ma_16, ms_16, ma_17, ms_17, ma_18, ms_18, ma_19, ms_19, ma_20, ms_20, ma_21, ms_21, ma_22, ms_22, ma_23, ms_23, ma_24, ms_24, ma_25, ms_25, ma_26, ms_26, ma_27, ms_27, ma_28, ms_28, ma_29, ms_29, ma_30, ms_30, ma_31, ms_31, ma_32, ms_32, ma_33, ms_33, ma_34, ms_34, ma_35, ms_35, ma_36, ms_36, ma_37, ms_37, ma_38, ms_38, ma_39, ms_39, ma_40, ms_40, ma_41, ms_41, ma_42, ms_42, ma_43, ms_43, Option.bind_some, cb, lt, nI_1, hs_nar2, nh4, upd_at, vau_at, ma_30_18, ms_30_18, ma_31_18, ms_31_18, ma_28_0, ms_28_0, ma_28_1, ms_28_1, ma_28_2, ms_28_2, ma_28_3, ms_28_3, ma_28_4, ms_28_4, ma_42_0, ms_42_0, ma_42_1, ms_42_1, ma_42_2, ms_42_2, ma_36_0, ms_36_0, a6, a7, e8, h1, m_mul6, nI_add, iI_le0, a10, a11, hs]
  by_cases c1 : 0 < tr (pB P i)
  · rw [if_neg (by omega), if_pos c1]
    exact ⟨_, _, rfl, MS.rf⟩
  · rw [if_pos (by omega), if_neg c1]
    cases hq : tLw T (pB P i) with
    | none =>
      rw [hq] at e10
      rw [if_pos e10]
      exact ⟨_, _, rfl, MS.rf⟩
    | some f =>
      rw [hq] at e10
      rw [if_neg e10.1]
      simp (disch := first | assumption | omega | rfl | exact And.intro (by omega) (by omega)) only [mck, mg_0, mp_0, mr_1, mg_2, mp_2, mr_3, mg_4, mp_4, mr_5, mr_6, mr_7, mr_8, mr_9, mg_10, mp_10, mg_11, mp_11, mg_12, mp_12, mg_13, mp_13, mg_14, mp_14, mg_15, mp_15, mg_16, mp_16, mg_17, mp_17, mg_18, mp_18, mg_19, mp_19, mg_20, mp_20, mr_21, mr_22, mr_23, mr_24, mr_25, mr_26, mr_27, mr_28, mr_29, mr_30, mr_31, mr_32, mg_33, mp_33, mr_34, mr_35, mr_36, mr_37, mr_38, mg_39, mp_39, mr_40, mr_41, mr_42, mg_43, mp_43, mr_44, mr_45, mg_46, mp_46, mr_47, mr_48, mg_49, mp_49, mg_50, mp_50, mg_51, mp_51, mr_52, mr_53, mr_54, mg_55, mp_55, mr_56, mr_57, mg_58, mp_58, mg_59, mp_59, mg_60, mp_60, mr_61, mg_62, mp_62, mr_63, mr_64, mr_65, mr_66, mr_67, mr_68, ma_1, ms_1, ma_2, ms_2, ma_3, ms_3, ma_4, ms_4, ma_5, ms_5, ma_6, ms_6, ma_7, ms_7, ma_8, ms_8, ma_9, ms_9, ma_10, ms_10, ma_11, ms_11, ma_12, ms_12, ma_13, ms_13, ma_14, ms_14, ma_15, ms_15, ma_16, ms_16, ma_17, ms_17, ma_18, ms_18, ma_19, ms_19, ma_20, ms_20, ma_21, ms_21, ma_22, ms_22, ma_23, ms_23, ma_24, ms_24, ma_25, ms_25, ma_26, ms_26, ma_27, ms_27, ma_28, ms_28, ma_29, ms_29, ma_30, ms_30, ma_31, ms_31, ma_32, ms_32, ma_33, ms_33, ma_34, ms_34, ma_35, ms_35, ma_36, ms_36, ma_37, ms_37, ma_38, ms_38, ma_39, ms_39, ma_40, ms_40, ma_41, ms_41, ma_42, ms_42, ma_43, ms_43, Option.bind_some, cb, lt, nI_1, hs_nar2, nh4, upd_at, vau_at, ma_30_18, ms_30_18, ma_31_18, ms_31_18, ma_28_0, ms_28_0, ma_28_1, ms_28_1, ma_28_2, ms_28_2, ma_28_3, ms_28_3, ma_28_4, ms_28_4, ma_42_0, ms_42_0, ma_42_1, ms_42_1, ma_42_2, ms_42_2, ma_36_0, ms_36_0, a7, m_add6, vau_ne, hs, bx_uu]
      obtain ⟨z, g, e11⟩ := e10.2 F (va_up A 28 (upd (upd (upd (upd (upd (A 28) 0 (iI (tLg T (pB P i)))) 1 (iI (tWt T (pB P i)))) 2 (nI i)) 3 (iI (pP P i))) 4 (nI P.1 - 1 - nI i))) B (fun c j g1 g2 _ => by rw [vau_ne (by omega)])
      rw [e11]
      rw [vau_at, v5_lawV (lg := tLg T (pB P i)) (wt := tWt T (pB P i)) (i := i) (pl := pP P i) (ab := P.1 - 1 - i) rfl rfl rfl rfl (m_top hi)]
      simp only [Option.bind_some, cl_iI]
      generalize f (lawV (tLg T (pB P i)) (tWt T (pB P i)) i (pP P i) (P.1 - 1 - i)) = v
      refine ⟨upd F 46 z, va_up (va_up A 28 (upd (upd (upd (upd (upd (A 28) 0 (iI (tLg T (pB P i)))) 1 (iI (tWt T (pB P i)))) 2 (nI i)) 3 (iI (pP P i))) 4 (nI P.1 - 1 - nI i))) 29 g, ?_, fun k hk => upd_ne hk, fun c g1 g2 => by rw [vau_ne g2, vau_ne g1], fun _ _ _ => rfl⟩
      have e12 : ((1 : Int32) ≤ v) ↔ ¬ v < 1 := Int32.not_lt.symm
      have e13 : (v ≤ (99 : Int32)) ↔ ¬ 99 < v := Int32.not_lt.symm
      by_cases c2 : v < 1
      · rw [if_neg (by rw [e12]; exact fun q => q c2), if_pos c2]
      · rw [if_pos (e12.2 c2), if_neg c2]
        by_cases c3 : 99 < v
        · rw [if_neg (by rw [e13]; exact fun q => q c3), if_pos c3]
        · rw [if_pos (e13.2 c3), if_neg c3]
