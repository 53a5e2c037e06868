/-! ===== fits, span: the model tries all rows ===== -/
def trD (nb : Nat) (r : Nat → Nat) (b : Nat) : Int := if b < nb then (r b : Int) + 1 else 0
theorem trD_tr {nb m : Nat} {r : Nat → Nat} (hm : m ≤ 6) (hr : ∀ b, r b < m) : Tr (trD nb r) := fun b => by
  have := hr b
  unfold trD
  split <;> omega
def stR (T : TD) (tr : Nat → Int) (P : AP) : Bool := (fal (stAt T tr (-1) 0 0 P) P.1 0).isNone
theorem stAt_ma {T : TD} {P : AP} {tr : Nat → Int} (ma : Int) : stAt T tr (-1) 0 ma P = stAt T tr (-1) 0 0 P := by
  funext i
  have e : gm T tr (-1) 0 ma P = gm T tr (-1) 0 0 P := by
    funext j
    unfold gm
    rw [if_neg (by omega), if_neg (by omega)]
  unfold stAt mo
  rw [e]
def soF (T : TD) (sp : Nat → AP) (sd : Nat → Int32) (tr : Nat → Int) : Nat → Nat → Bool
  | 0, _ => true
  | k + 1, i => decide (b2 (stR T tr (sp i)) = sd i) && soF T sp sd tr k (i + 1)
/-- scratch of trying rows -/
def MV (F F' : Nat → Int32) (A A' : Nat → Nat → Int32) (B B' : Nat → Nat → Int64) : Prop := (∀ k, ¬ k = 46 → F' k = F k) ∧ (∀ c, ¬ c = 28 → ¬ c = 29 → ¬ c = 31 → A' c = A c) ∧ ∀ c, ¬ c = 33 → ¬ c = 34 → B' c = B c
def MW (F F' : Nat → Int32) (A A' : Nat → Nat → Int32) (B B' : Nat → Nat → Int64) : Prop := (∀ k, ¬ k = 46 → F' k = F k) ∧ (∀ c, ¬ c = 28 → ¬ c = 29 → ¬ c = 31 → ¬ c = 32 → ¬ c = 40 → ¬ c = 41 → A' c = A c) ∧ ∀ c, ¬ c = 33 → ¬ c = 34 → B' c = B c
/-- what the model looks at, the weights tr tried -/
def MFit (F : Nat → Int32) (A : Nat → Nat → Int32) (lv : Nat) (T : TD) (n7 : Nat) (sp : Nat → AP) (sd : Nat → Int32) (ma : Int) : Prop := (F 18 = nI lv ∧ lv ≤ 1) ∧ (GoodT T ∧ MText A lv T) ∧ More F (-1) 0 ma ∧ n7 ≤ 6 ∧ ∀ j, j < n7 → GoodP (tNb T) (sp j) ∧ MPile A 38 (20 * j) (sp j) ∧ A 39 j = sd j
theorem MFit.mw {F F' : Nat → Int32} {A A' : Nat → Nat → Int32} {B B' : Nat → Nat → Int64} {lv : Nat} {T : TD} {n7 : Nat} {sp : Nat → AP} {sd : Nat → Int32} {ma : Int} (h : MFit F A lv T n7 sp sd ma) (g : MW F F' A A' B B') : MFit F' A' lv T n7 sp sd ma := by
  obtain ⟨⟨h1, h2⟩, ⟨h3, h4⟩, ⟨⟨h5, h6, h7⟩, h8⟩, h9, h10⟩ := h
  obtain ⟨g1, g2, g3⟩ := g
  refine ⟨⟨by rw [g1 18 (by decide)]; exact h1, h2⟩, ⟨h3, h4.eq (fun c hc => g2 c (by unfold KM at hc; omega) (by unfold KM at hc; omega) (by unfold KM at hc; omega) (by unfold KM at hc; omega) (by unfold KM at hc; omega) (by unfold KM at hc; omega))⟩, ⟨⟨by rw [g1 50 (by decide)]; exact h5, by rw [g1 49 (by decide)]; exact h6, by rw [g1 51 (by decide)]; exact h7⟩, h8⟩, h9, fun j hj => ?_⟩
  obtain ⟨a1, a2, a3⟩ := h10 j hj
  exact ⟨a1, a2.eq (g2 38 (by decide) (by decide) (by decide) (by decide) (by decide) (by decide)), by rw [g2 39 (by decide) (by decide) (by decide) (by decide) (by decide) (by decide)]; exact a3⟩
theorem MV.mw {F F' : Nat → Int32} {A A' : Nat → Nat → Int32} {B B' : Nat → Nat → Int64} (h : MV F F' A A' B B') : MW F F' A A' B B' := ⟨h.1, fun c h1 h2 h3 _ _ _ => h.2.1 c h1 h2 h3, h.2.2⟩
theorem MW.tr {F F1 F2 : Nat → Int32} {A A1 A2 : Nat → Nat → Int32} {B B1 B2 : Nat → Nat → Int64} (h : MW F F1 A A1 B B1) (g : MW F1 F2 A1 A2 B1 B2) : MW F F2 A A2 B B2 := ⟨fun k h1 => (g.1 k h1).trans (h.1 k h1), fun c h1 h2 h3 h4 h5 h6 => (g.2.1 c h1 h2 h3 h4 h5 h6).trans (h.2.1 c h1 h2 h3 h4 h5 h6), fun c h1 h2 => (g.2.2 c h1 h2).trans (h.2.2 c h1 h2)⟩
theorem MV.tr {F F1 F2 : Nat → Int32} {A A1 A2 : Nat → Nat → Int32} {B B1 B2 : Nat → Nat → Int64} (h : MV F F1 A A1 B B1) (g : MV F1 F2 A1 A2 B1 B2) : MV F F2 A A2 B B2 := ⟨fun k h1 => (g.1 k h1).trans (h.1 k h1), fun c h1 h2 h3 => (g.2.1 c h1 h2 h3).trans (h.2.1 c h1 h2 h3), fun c h1 h2 => (g.2.2 c h1 h2).trans (h.2.2 c h1 h2)⟩
theorem MW.rf {F : Nat → Int32} {A : Nat → Nat → Int32} {B : Nat → Nat → Int64} : MW F F A A B B := ⟨fun _ _ => rfl, fun _ _ _ _ _ _ _ => rfl, fun _ _ _ => rfl⟩
theorem MV.rf {F : Nat → Int32} {A : Nat → Nat → Int32} {B : Nat → Nat → Int64} : MV F F A A B B := ⟨fun _ _ => rfl, fun _ _ _ _ => rfl, fun _ _ _ => rfl⟩
section MF
variable {lv : Nat} {T : TD} {n7 : Nat} {sp : Nat → AP} {sd : Nat → Int32} {ma : Int}
theorem m_isSo_go {tr : Nat → Int} (ht : Tr tr) {K : Nat} (hK : K ≤ n7) : ∀ k i fuel, i + k = K → k < fuel → ∀ {F : Nat → Int32} {A : Nat → Nat → Int32} {B : Nat → Nat → Int64}, MFit F A lv T n7 sp sd ma → (∀ b, b < 6 → A 32 b = iI (tr b)) → ∃ F' A' B', fX12_isSo_b2 fuel 0 (nI K) (nI i) (mkM F A B) = some (b2 (soF T sp sd tr k i), mkM F' A' B') ∧ MV F F' A A' B B' := by
  intro k
  induction k with
  | zero =>
    intro i fuel h1 h2 F A B hF hA
    obtain ⟨fuel, rfl⟩ : ∃ q, fuel = q + 1 := ⟨fuel - 1, by omega⟩
    have h6 := hF.2.2.2.1
    rw [fX12_isSo_b2, if_pos (nI_le (by omega) (by omega))]
    exact ⟨F, A, B, rfl, MV.rf⟩
  | succ k ih =>
    intro i fuel h1 h2 F A B hF hA
    obtain ⟨fuel, rfl⟩ : ∃ q, fuel = q + 1 := ⟨fuel - 1, by omega⟩
    have h6 := hF.2.2.2.1
    have hi6 : i < 6 := by omega
    obtain ⟨a1, a2, a3⟩ := hF.2.2.2.2 i (by omega)
    have e := m_cp8 (F := F) (A := A) (B := B) (fX12_isSo_b2 fuel) (nI K) hi6 20 0 FU (by omega) (by decide)
    rw [cpA_0, vau_id] at e
    generalize hA1 : va_up A 31 (cpA (A 31) (A 38) 0 (20 * i) 20) = A1 at e
    have c31 : ∀ j, j < 20 → A1 31 j = A 38 (20 * i + j) := fun j hj => by
      have q := cpA_in (g := A 31) (s := A 38) (d := 0) (o := 20 * i) hj
      rw [Nat.zero_add] at q
      rw [← hA1, vau_at, q]
    have cO : ∀ c, ¬ c = 31 → A1 c = A c := fun c hc => by rw [← hA1, vau_ne hc]
    have hp6 := a1.1
    have mp : MPile A1 31 0 (sp i) := by
      refine ⟨by rw [Nat.zero_add, c31 18 (by decide)]; exact a2.1, fun l hl => ?_⟩
      obtain ⟨q1, q2, q3⟩ := a2.2 l hl
      rw [Nat.zero_add, Nat.zero_add, Nat.zero_add, c31 l (by omega), c31 (6 + l) (by omega), c31 (12 + l) (by omega), ← Nat.add_assoc, ← Nat.add_assoc]
      exact ⟨q1, q2, q3⟩
    have hR : MRow F A1 lv T tr (sp i) := ⟨hF.1, ⟨hF.2.1.1, hF.2.1.2.eq (fun c hc => cO c (by unfold KM at hc; omega))⟩, ⟨mp, a1.big⟩, ht, fun b hb => by rw [cO 32 (by decide)]; exact hA b hb⟩
    obtain ⟨F2, A2, B2, q1, q2, q3⟩ := m_tipsAt B hR hF.2.2.1
    rw [stAt_ma] at q1
    have en := rF_neg (s := stAt T tr (-1) 0 0 (sp i)) hp6
    have hV : MV F F2 A A2 B B2 := ⟨q2.1, fun c g1 g2 g3 => by rw [q2.2.1 c g1 g2, cO c g3], q2.2.2⟩
    have sd2 : A2 39 i = sd i := by rw [hV.2.1 39 (by decide) (by decide) (by decide)]; exact a3
    have fin : ∃ F' A' B', fX12_isSo_b50 (fX12_isSo_b2 fuel) 0 (nI K) (nI i) (b2 (stR T tr (sp i))) (mkM F2 A2 B2) = some (b2 (soF T sp sd tr (k + 1) i), mkM F' A' B') ∧ MV F F' A A' B B' := by
      unfold fX12_isSo_b50
      simp -implicitDefEqProofs (disch := first | assumption | omega | decide | exact And.intro (by omega) (by omega)) only [mck, mg_0, mp_0, mr_1, mg_2, mp_2, mr_3, mg_4, mp_4, mr_5, mr_6, mr_7, mr_8, mr_9, mg_10, mp_10, mg_11, mp_11, mg_12, mp_12, mg_13, mp_13, mg_14, mp_14, mg_15, mp_15, mg_16, mp_16, mg_17, mp_17, mg_18, mp_18, mg_19, mp_19, mg_20, mp_20, mr_21, mr_22, mr_23, mr_24, mr_25, mr_26, mr_27, mr_28, mr_29, mr_30, mr_31, mr_32, mg_33, mp_33, mr_34, mr_35, mr_36, mr_37, mr_38, mg_39, mp_39, mr_40, mr_41, mr_42, mg_43, mp_43, mr_44, mr_45, mg_46, mp_46, mr_47, mr_48, mg_49, mp_49, mg_50, mp_50, mg_51, mp_51, mr_52, mr_53, mr_54, mg_55, mp_55, mr_56, mr_57, mg_58, mp_58, mg_59, mp_59, mg_60, mp_60, mr_61, mg_62, mp_62, mr_63, mr_64, mr_65, mr_66, mr_67, mr_68, ma_1, ms_1, ma_2, ms_2, ma_3, ms_3, ma_4, ms_4, ma_5, ms_5, ma_6, ms_6, ma_7, ms_7, ma_8, ms_8, ma_9, ms_9, ma_10, ms_10, ma_11, ms_11, ma_12, ms_12, ma_13, ms_13, ma_14, ms_14, ma_15, ms_15, ma_16, ms_16, ma_17, ms_17, ma_18, ms_18, ma_19, ms_19, ma_20, ms_20, ma_21, ms_21, ma_22, ms_22, ma_23, ms_23, ma_24, ms_24, ma_25, ms_25, ma_26, ms_26, ma_27, ms_27, ma_28, ms_28, ma_29, ms_29, ma_30, ms_30, ma_31, ms_31, ma_32, ms_32, ma_33, ms_33, ma_34, ms_34, ma_35, ms_35, ma_36, ms_36, ma_37, ms_37, ma_38, ms_38, ma_39, ms_39, ma_40, ms_40, ma_41, ms_41, ma_42, ms_42, ma_43, ms_43, if_true, if_false, Option.bind_some, cb_e, lt_e, nI_1, hs_nar2, nh4, upd_at, vau_at, ma_30_18, ms_30_18, ma_31_18, ms_31_18, ma_28_0, ms_28_0, ma_28_1, ms_28_1, ma_28_2, ms_28_2, ma_28_3, ms_28_3, ma_28_4, ms_28_4, ma_42_0, ms_42_0, ma_42_1, ms_42_1, ma_42_2, ms_42_2, ma_36_0, ms_36_0, sd2]
      rw [soF]
      by_cases c : b2 (stR T tr (sp i)) = sd i
      · rw [if_pos c, decide_eq_true c, Bool.true_and]
        obtain ⟨F3, A3, B3, z1, z2⟩ := ih (i + 1) fuel (by omega) (by omega) (hF.mw hV.mw) (fun b hb => by rw [hV.2.1 32 (by decide) (by decide) (by decide)]; exact hA b hb)
        exact ⟨F3, A3, B3, z1, hV.tr z2⟩
      · rw [if_neg c, decide_eq_false c, Bool.false_and]
        exact ⟨F2, A2, B2, rfl, hV⟩
    rw [fX12_isSo_b2, if_neg (nI_ge (by omega) (by omega))]
    rw [show fX12_isSo_b9 (fX12_isSo_b2 fuel) FU 0 (nI K) (nI i) 0 (mkM F A B) = _ from e]
    unfold fX12_isSo_b38
    simp -implicitDefEqProofs (disch := first | assumption | omega | decide | exact And.intro (by omega) (by omega)) only [mck, mg_0, mp_0, mr_1, mg_2, mp_2, mr_3, mg_4, mp_4, mr_5, mr_6, mr_7, mr_8, mr_9, mg_10, mp_10, mg_11, mp_11, mg_12, mp_12, mg_13, mp_13, mg_14, mp_14, mg_15, mp_15, mg_16, mp_16, mg_17, mp_17, mg_18, mp_18, mg_19, mp_19, mg_20, mp_20, mr_21, mr_22, mr_23, mr_24, mr_25, mr_26, mr_27, mr_28, mr_29, mr_30, mr_31, mr_32, mg_33, mp_33, mr_34, mr_35, mr_36, mr_37, mr_38, mg_39, mp_39, mr_40, mr_41, mr_42, mg_43, mp_43, mr_44, mr_45, mg_46, mp_46, mr_47, mr_48, mg_49, mp_49, mg_50, mp_50, mg_51, mp_51, mr_52, mr_53, mr_54, mg_55, mp_55, mr_56, mr_57, mg_58, mp_58, mg_59, mp_59, mg_60, mp_60, mr_61, mg_62, mp_62, mr_63, mr_64, mr_65, mr_66, mr_67, mr_68, ma_1, ms_1, ma_2, ms_2, ma_3, ms_3, ma_4, ms_4, ma_5, ms_5, ma_6, ms_6, ma_7, ms_7, ma_8, ms_8, ma_9, ms_9, ma_10, ms_10, ma_11, ms_11, ma_12, ms_12, ma_13, ms_13, ma_14, ms_14, ma_15, ms_15, ma_16, ms_16, ma_17, ms_17, ma_18, ms_18, ma_19, ms_19, ma_20, ms_20, ma_21, ms_21, ma_22, ms_22, ma_23, ms_23, ma_24, ms_24, ma_25, ms_25, ma_26, ms_26, ma_27, ms_27, ma_28, ms_28, ma_29, ms_29, ma_30, ms_30, ma_31, ms_31, ma_32, ms_32, ma_33, ms_33, ma_34, ms_34, ma_35, ms_35, ma_36, ms_36, ma_37, ms_37, ma_38, ms_38, ma_39, ms_39, ma_40, ms_40, ma_41, ms_41, ma_42, ms_42, ma_43, ms_43, if_true, if_false, Option.bind_some, cb_e, lt_e, nI_1, hs_nar2, nh4, upd_at, vau_at, ma_30_18, ms_30_18, ma_31_18, ms_31_18, ma_28_0, ms_28_0, ma_28_1, ms_28_1, ma_28_2, ms_28_2, ma_28_3, ms_28_3, ma_28_4, ms_28_4, ma_42_0, ms_42_0, ma_42_1, ms_42_1, ma_42_2, ms_42_2, ma_36_0, ms_36_0, q1]
    cases hq : stR T tr (sp i) with
    | true =>
      rw [hq] at fin
      unfold stR at hq
      rw [if_neg (fun q => by have := en.1 q; rw [hq] at this; cases this)]
      exact fin
    | false =>
      rw [hq] at fin
      unfold stR at hq
      rw [if_pos (en.2 hq)]
      exact fin
theorem m_isSo {tr : Nat → Int} (ht : Tr tr) {K : Nat} (hK : K ≤ n7) {F : Nat → Int32} {A : Nat → Nat → Int32} (B : Nat → Nat → Int64) (hF : MFit F A lv T n7 sp sd ma) (hA : ∀ b, b < 6 → A 32 b = iI (tr b)) : ∃ F' A' B', fX12_isSo 0 (nI K) (mkM F A B) = some (b2 (soF T sp sd tr K 0), mkM F' A' B') ∧ MV F F' A A' B B' := by
  obtain ⟨F', A', B', z1, z2⟩ := m_isSo_go ht hK K 0 FU (by omega) (by have := hF.2.2.2.1; unfold FU; omega) (B := B) hF hA
  refine ⟨F', A', B', ?_, z2⟩
  unfold fX12_isSo
  simp -implicitDefEqProofs (disch := first | assumption | omega | decide | exact And.intro (by omega) (by omega)) only [mck, mg_0, mp_0, mr_1, mg_2, mp_2, mr_3, mg_4, mp_4, mr_5, mr_6, mr_7, mr_8, mr_9, mg_10, mp_10, mg_11, mp_11, mg_12, mp_12, mg_13, mp_13, mg_14, mp_14, mg_15, mp_15, mg_16, mp_16, mg_17, mp_17, mg_18, mp_18, mg_19, mp_19, mg_20, mp_20, mr_21, mr_22, mr_23, mr_24, mr_25, mr_26, mr_27, mr_28, mr_29, mr_30, mr_31, mr_32, mg_33, mp_33, mr_34, mr_35, mr_36, mr_37, mr_38, mg_39, mp_39, mr_40, mr_41, mr_42, mg_43, mp_43, mr_44, mr_45, mg_46, mp_46, mr_47, mr_48, mg_49, mp_49, mg_50, mp_50, mg_51, mp_51, mr_52, mr_53, mr_54, mg_55, mp_55, mr_56, mr_57, mg_58, mp_58, mg_59, mp_59, mg_60, mp_60, mr_61, mg_62, mp_62, mr_63, mr_64, mr_65, mr_66, mr_67, mr_68, ma_1, ms_1, ma_2, ms_2, ma_3, ms_3, ma_4, ms_4, ma_5, ms_5, ma_6, ms_6, ma_7, ms_7, ma_8, ms_8, ma_9, ms_9, ma_10, ms_10, ma_11, ms_11, ma_12, ms_12, ma_13, ms_13, ma_14, ms_14, ma_15, ms_15, ma_16, ms_16, ma_17, ms_17, ma_18, ms_18, ma_19, ms_19, ma_20, ms_20, ma_21, ms_21, ma_22, ms_22, ma_23, ms_23, ma_24, ms_24, ma_25, ms_25, ma_26, ms_26, ma_27, ms_27, ma_28, ms_28, ma_29, ms_29, ma_30, ms_30, ma_31, ms_31, ma_32, ms_32, ma_33, ms_33, ma_34, ms_34, ma_35, ms_35, ma_36, ms_36, ma_37, ms_37, ma_38, ms_38, ma_39, ms_39, ma_40, ms_40, ma_41, ms_41, ma_42, ms_42, ma_43, ms_43, if_true, if_false, Option.bind_some, cb_e, lt_e, nI_1, hs_nar2, nh4, upd_at, vau_at, ma_30_18, ms_30_18, ma_31_18, ms_31_18, ma_28_0, ms_28_0, ma_28_1, ms_28_1, ma_28_2, ms_28_2, ma_28_3, ms_28_3, ma_28_4, ms_28_4, ma_42_0, ms_42_0, ma_42_1, ms_42_1, ma_42_2, ms_42_2, ma_36_0, ms_36_0]
  exact z1
theorem m_digits {F : Nat → Int32} {B : Nat → Nat → Int64} (h18 : F 18 = nI lv) (hlv : lv ≤ 1) {nb : Nat} (hnb : nb ≤ 6) {m w : Nat} (hm : 0 < m) (hm6 : m ≤ 6) (hw : w < 2 ^ 31) (KK : Nat → Int32 → Int32 → Int32 → Int32 → Int32 → Sto → Option (Int32 × Sto)) (xk xr xc xw : Int32) : ∀ k x fuel, x + k = nb → k < fuel → ∀ (A : Nat → Nat → Int32), A 9 lv = nI nb → (∀ b, b < x → A 32 b = nI (dgs m nb w b + 1)) → ∃ A', fX12_fillsFits_b52 KK fuel 0 (nI m) xk xr xc xw (nI (w / m ^ x)) (nI x) (mkM F A B) = fX12_fillsFits_b91 KK 0 (nI m) xk xr xc xw (mkM F A' B) ∧ (∀ b, b < nb → A' 32 b = nI (dgs m nb w b + 1)) ∧ (∀ b, nb ≤ b → A' 32 b = A 32 b) ∧ ∀ c, ¬ c = 32 → A' c = A c := by
  have m0 : ¬ nI m = 0 := nI_ne0 hm (by omega)
  intro k
  induction k with
  | zero =>
    intro x fuel h1 h2 A a1 a2
    obtain ⟨fuel, rfl⟩ : ∃ q, fuel = q + 1 := ⟨fuel - 1, by omega⟩
    have : x = nb := by omega
    subst this
    rw [fX12_fillsFits_b52]
    simp -implicitDefEqProofs (disch := first | assumption | omega | decide | exact And.intro (by omega) (by omega)) only [mck, mg_0, mp_0, mr_1, mg_2, mp_2, mr_3, mg_4, mp_4, mr_5, mr_6, mr_7, mr_8, mr_9, mg_10, mp_10, mg_11, mp_11, mg_12, mp_12, mg_13, mp_13, mg_14, mp_14, mg_15, mp_15, mg_16, mp_16, mg_17, mp_17, mg_18, mp_18, mg_19, mp_19, mg_20, mp_20, mr_21, mr_22, mr_23, mr_24, mr_25, mr_26, mr_27, mr_28, mr_29, mr_30, mr_31, mr_32, mg_33, mp_33, mr_34, mr_35, mr_36, mr_37, mr_38, mg_39, mp_39, mr_40, mr_41, mr_42, mg_43, mp_43, mr_44, mr_45, mg_46, mp_46, mr_47, mr_48, mg_49, mp_49, mg_50, mp_50, mg_51, mp_51, mr_52, mr_53, mr_54, mg_55, mp_55, mr_56, mr_57, mg_58, mp_58, mg_59, mp_59, mg_60, mp_60, mr_61, mg_62, mp_62, mr_63, mr_64, mr_65, mr_66, mr_67, mr_68, ma_1, ms_1, ma_2, ms_2, ma_3, ms_3, ma_4, ms_4, ma_5, ms_5, ma_6, ms_6, ma_7, ms_7, ma_8, ms_8, ma_9, ms_9, ma_10, ms_10, ma_11, ms_11, ma_12, ms_12, ma_13, ms_13, ma_14, ms_14, ma_15, ms_15, ma_16, ms_16, ma_17, ms_17, ma_18, ms_18, ma_19, ms_19, ma_20, ms_20, ma_21, ms_21, ma_22, ms_22, ma_23, ms_23, ma_24, ms_24, ma_25, ms_25, ma_26, ms_26, ma_27, ms_27, ma_28, ms_28, ma_29, ms_29, ma_30, ms_30, ma_31, ms_31, ma_32, ms_32, ma_33, ms_33, ma_34, ms_34, ma_35, ms_35, ma_36, ms_36, ma_37, ms_37, ma_38, ms_38, ma_39, ms_39, ma_40, ms_40, ma_41, ms_41, ma_42, ms_42, ma_43, ms_43, if_true, if_false, Option.bind_some, cb_e, lt_e, nI_1, hs_nar2, nh4, upd_at, vau_at, ma_30_18, ms_30_18, ma_31_18, ms_31_18, ma_28_0, ms_28_0, ma_28_1, ms_28_1, ma_28_2, ms_28_2, ma_28_3, ms_28_3, ma_28_4, ms_28_4, ma_42_0, ms_42_0, ma_42_1, ms_42_1, ma_42_2, ms_42_2, ma_36_0, ms_36_0, h18, a1]
    rw [if_pos (nI_le (by omega) (by omega))]
    exact ⟨A, rfl, a2, fun _ _ => rfl, fun _ _ => rfl⟩
  | succ k ih =>
    intro x fuel h1 h2 A a1 a2
    obtain ⟨fuel, rfl⟩ : ∃ q, fuel = q + 1 := ⟨fuel - 1, by omega⟩
    have hx6 : x < 6 := by omega
    have hwx : w / m ^ x < 2 ^ 31 := Nat.lt_of_le_of_lt (Nat.div_le_self _ _) hw
    have er : hs_rem (nI (w / m ^ x)) (nI m) = nI (w / m ^ x % m) := pk_rem hwx hm (by omega)
    have ed : nI (w / m ^ x) / nI m = nI (w / m ^ (x + 1)) := by
      rw [pk_div hwx hm (by omega), Nat.div_div_eq_div_mul, ← Nat.pow_succ]
    have e1 : (1 : Int32) + nI (w / m ^ x % m) = nI (dgs m nb w x + 1) := by
      have q : (1 : Int32) + nI (w / m ^ x % m) = nI (1 + w / m ^ x % m) := nI_add 1 _
      rw [q]
      unfold dgs
      rw [if_pos (by omega), Nat.add_comm]
    rw [fX12_fillsFits_b52]
    simp -implicitDefEqProofs (disch := first | assumption | omega | decide | exact And.intro (by omega) (by omega)) only [mck, mg_0, mp_0, mr_1, mg_2, mp_2, mr_3, mg_4, mp_4, mr_5, mr_6, mr_7, mr_8, mr_9, mg_10, mp_10, mg_11, mp_11, mg_12, mp_12, mg_13, mp_13, mg_14, mp_14, mg_15, mp_15, mg_16, mp_16, mg_17, mp_17, mg_18, mp_18, mg_19, mp_19, mg_20, mp_20, mr_21, mr_22, mr_23, mr_24, mr_25, mr_26, mr_27, mr_28, mr_29, mr_30, mr_31, mr_32, mg_33, mp_33, mr_34, mr_35, mr_36, mr_37, mr_38, mg_39, mp_39, mr_40, mr_41, mr_42, mg_43, mp_43, mr_44, mr_45, mg_46, mp_46, mr_47, mr_48, mg_49, mp_49, mg_50, mp_50, mg_51, mp_51, mr_52, mr_53, mr_54, mg_55, mp_55, mr_56, mr_57, mg_58, mp_58, mg_59, mp_59, mg_60, mp_60, mr_61, mg_62, mp_62, mr_63, mr_64, mr_65, mr_66, mr_67, mr_68, ma_1, ms_1, ma_2, ms_2, ma_3, ms_3, ma_4, ms_4, ma_5, ms_5, ma_6, ms_6, ma_7, ms_7, ma_8, ms_8, ma_9, ms_9, ma_10, ms_10, ma_11, ms_11, ma_12, ms_12, ma_13, ms_13, ma_14, ms_14, ma_15, ms_15, ma_16, ms_16, ma_17, ms_17, ma_18, ms_18, ma_19, ms_19, ma_20, ms_20, ma_21, ms_21, ma_22, ms_22, ma_23, ms_23, ma_24, ms_24, ma_25, ms_25, ma_26, ms_26, ma_27, ms_27, ma_28, ms_28, ma_29, ms_29, ma_30, ms_30, ma_31, ms_31, ma_32, ms_32, ma_33, ms_33, ma_34, ms_34, ma_35, ms_35, ma_36, ms_36, ma_37, ms_37, ma_38, ms_38, ma_39, ms_39, ma_40, ms_40, ma_41, ms_41, ma_42, ms_42, ma_43, ms_43, if_true, if_false, Option.bind_some, cb_e, lt_e, nI_1, hs_nar2, nh4, upd_at, vau_at, ma_30_18, ms_30_18, ma_31_18, ms_31_18, ma_28_0, ms_28_0, ma_28_1, ms_28_1, ma_28_2, ms_28_2, ma_28_3, ms_28_3, ma_28_4, ms_28_4, ma_42_0, ms_42_0, ma_42_1, ms_42_1, ma_42_2, ms_42_2, ma_36_0, ms_36_0, h18, a1]
    rw [if_neg (nI_ge (by omega) (by omega))]
    simp -implicitDefEqProofs (disch := first | assumption | omega | decide | exact And.intro (by omega) (by omega)) only [mck, mg_0, mp_0, mr_1, mg_2, mp_2, mr_3, mg_4, mp_4, mr_5, mr_6, mr_7, mr_8, mr_9, mg_10, mp_10, mg_11, mp_11, mg_12, mp_12, mg_13, mp_13, mg_14, mp_14, mg_15, mp_15, mg_16, mp_16, mg_17, mp_17, mg_18, mp_18, mg_19, mp_19, mg_20, mp_20, mr_21, mr_22, mr_23, mr_24, mr_25, mr_26, mr_27, mr_28, mr_29, mr_30, mr_31, mr_32, mg_33, mp_33, mr_34, mr_35, mr_36, mr_37, mr_38, mg_39, mp_39, mr_40, mr_41, mr_42, mg_43, mp_43, mr_44, mr_45, mg_46, mp_46, mr_47, mr_48, mg_49, mp_49, mg_50, mp_50, mg_51, mp_51, mr_52, mr_53, mr_54, mg_55, mp_55, mr_56, mr_57, mg_58, mp_58, mg_59, mp_59, mg_60, mp_60, mr_61, mg_62, mp_62, mr_63, mr_64, mr_65, mr_66, mr_67, mr_68, ma_1, ms_1, ma_2, ms_2, ma_3, ms_3, ma_4, ms_4, ma_5, ms_5, ma_6, ms_6, ma_7, ms_7, ma_8, ms_8, ma_9, ms_9, ma_10, ms_10, ma_11, ms_11, ma_12, ms_12, ma_13, ms_13, ma_14, ms_14, ma_15, ms_15, ma_16, ms_16, ma_17, ms_17, ma_18, ms_18, ma_19, ms_19, ma_20, ms_20, ma_21, ms_21, ma_22, ms_22, ma_23, ms_23, ma_24, ms_24, ma_25, ms_25, ma_26, ms_26, ma_27, ms_27, ma_28, ms_28, ma_29, ms_29, ma_30, ms_30, ma_31, ms_31, ma_32, ms_32, ma_33, ms_33, ma_34, ms_34, ma_35, ms_35, ma_36, ms_36, ma_37, ms_37, ma_38, ms_38, ma_39, ms_39, ma_40, ms_40, ma_41, ms_41, ma_42, ms_42, ma_43, ms_43, if_true, if_false, Option.bind_some, cb_e, lt_e, nI_1, hs_nar2, nh4, upd_at, vau_at, ma_30_18, ms_30_18, ma_31_18, ms_31_18, ma_28_0, ms_28_0, ma_28_1, ms_28_1, ma_28_2, ms_28_2, ma_28_3, ms_28_3, ma_28_4, ms_28_4, ma_42_0, ms_42_0, ma_42_1, ms_42_1, ma_42_2, ms_42_2, ma_36_0, ms_36_0, if_neg m0, er, ed, e1]
    obtain ⟨A', z1, z2, z3, z4⟩ := ih (x + 1) fuel (by omega) (by omega) (va_up A 32 (upd (A 32) x (nI (dgs m nb w x + 1)))) (by rw [vau_ne (by decide)]; exact a1) (fun b hb => by
      rw [vau_at]
      by_cases c : b = x
      · rw [c, upd_at]
      · rw [upd_ne c]
        exact a2 b (by omega))
    exact ⟨A', z1, z2, fun b hb => by rw [z3 b hb, vau_at, upd_ne (by omega)], fun c hc => by rw [z4 c hc, vau_ne hc]⟩
/-- the least and the greatest brought up to date -/
theorem m_widen {F : Nat → Int32} {B : Nat → Nat → Int64} (h18 : F 18 = nI lv) (hlv : lv ≤ 1) {nb : Nat} (hnb : nb ≤ 6) {c : Nat} (hc : c < 2 ^ 31) {tv le gr : Nat → Nat} (htv : ∀ b, tv b < 100) (hle : ∀ b, le b < 100) (hgr : ∀ b, gr b < 100) (KK : Nat → Int32 → Int32 → Int32 → Int32 → Int32 → Sto → Option (Int32 × Sto)) (xm xk xr xw : Int32) : ∀ k x fuel, x + k = nb → k < fuel → ∀ (A : Nat → Nat → Int32), A 9 lv = nI nb → (∀ b, b < nb → A 32 b = nI (tv b)) → (∀ b, b < x → A 40 b = nI (if c = 0 ∨ tv b < le b then tv b else le b) ∧ A 41 b = nI (if c = 0 ∨ gr b < tv b then tv b else gr b)) → (0 < c → ∀ b, x ≤ b → b < nb → A 40 b = nI (le b) ∧ A 41 b = nI (gr b)) → ∃ A', fX12_fillsFits_b105 KK fuel 0 xm xk xr (nI c) xw (nI x) (mkM F A B) = KK 0 xm xk xr (nI (c + 1)) (xw + 1) (mkM F A' B) ∧ (∀ b, b < nb → A' 40 b = nI (if c = 0 ∨ tv b < le b then tv b else le b) ∧ A' 41 b = nI (if c = 0 ∨ gr b < tv b then tv b else gr b)) ∧ ∀ d, ¬ d = 40 → ¬ d = 41 → A' d = A d := by
  intro k
  induction k with
  | zero =>
    intro x fuel h1 h2 A a1 a2 a3 a4
    obtain ⟨fuel, rfl⟩ : ∃ q, fuel = q + 1 := ⟨fuel - 1, by omega⟩
    have : x = nb := by omega
    subst this
    rw [fX12_fillsFits_b105]
    simp -implicitDefEqProofs (disch := first | assumption | omega | decide | exact And.intro (by omega) (by omega)) only [mck, mg_0, mp_0, mr_1, mg_2, mp_2, mr_3, mg_4, mp_4, mr_5, mr_6, mr_7, mr_8, mr_9, mg_10, mp_10, mg_11, mp_11, mg_12, mp_12, mg_13, mp_13, mg_14, mp_14, mg_15, mp_15, mg_16, mp_16, mg_17, mp_17, mg_18, mp_18, mg_19, mp_19, mg_20, mp_20, mr_21, mr_22, mr_23, mr_24, mr_25, mr_26, mr_27, mr_28, mr_29, mr_30, mr_31, mr_32, mg_33, mp_33, mr_34, mr_35, mr_36, mr_37, mr_38, mg_39, mp_39, mr_40, mr_41, mr_42, mg_43, mp_43, mr_44, mr_45, mg_46, mp_46, mr_47, mr_48, mg_49, mp_49, mg_50, mp_50, mg_51, mp_51, mr_52, mr_53, mr_54, mg_55, mp_55, mr_56, mr_57, mg_58, mp_58, mg_59, mp_59, mg_60, mp_60, mr_61, mg_62, mp_62, mr_63, mr_64, mr_65, mr_66, mr_67, mr_68, ma_1, ms_1, ma_2, ms_2, ma_3, ms_3, ma_4, ms_4, ma_5, ms_5, ma_6, ms_6, ma_7, ms_7, ma_8, ms_8, ma_9, ms_9, ma_10, ms_10, ma_11, ms_11, ma_12, ms_12, ma_13, ms_13, ma_14, ms_14, ma_15, ms_15, ma_16, ms_16, ma_17, ms_17, ma_18, ms_18, ma_19, ms_19, ma_20, ms_20, ma_21, ms_21, ma_22, ms_22, ma_23, ms_23, ma_24, ms_24, ma_25, ms_25, ma_26, ms_26, ma_27, ms_27, ma_28, ms_28, ma_29, ms_29, ma_30, ms_30, ma_31, ms_31, ma_32, ms_32, ma_33, ms_33, ma_34, ms_34, ma_35, ms_35, ma_36, ms_36, ma_37, ms_37, ma_38, ms_38, ma_39, ms_39, ma_40, ms_40, ma_41, ms_41, ma_42, ms_42, ma_43, ms_43, if_true, if_false, Option.bind_some, cb_e, lt_e, nI_1, hs_nar2, nh4, upd_at, vau_at, ma_30_18, ms_30_18, ma_31_18, ms_31_18, ma_28_0, ms_28_0, ma_28_1, ms_28_1, ma_28_2, ms_28_2, ma_28_3, ms_28_3, ma_28_4, ms_28_4, ma_42_0, ms_42_0, ma_42_1, ms_42_1, ma_42_2, ms_42_2, ma_36_0, ms_36_0, h18, a1]
    rw [if_pos (nI_le (by omega) (by omega))]
    unfold fX12_fillsFits_b197 fX12_fillsFits_b200
    rw [nI_1]
    exact ⟨A, rfl, a3, fun _ _ _ => rfl⟩
  | succ k ih =>
    intro x fuel h1 h2 A a1 a2 a3 a4
    obtain ⟨fuel, rfl⟩ : ∃ q, fuel = q + 1 := ⟨fuel - 1, by omega⟩
    have hx6 : x < 6 := by omega
    have t1 := a2 x (by omega)
    have v1 := htv x
    have v2 := hle x
    have v3 := hgr x
    have go : ∀ (p q : Int32), p = nI (if c = 0 ∨ tv x < le x then tv x else le x) → q = nI (if c = 0 ∨ gr x < tv x then tv x else gr x) → ∀ A1 : Nat → Nat → Int32, A1 40 = upd (A 40) x p → A1 41 = upd (A 41) x q → (∀ d, ¬ d = 40 → ¬ d = 41 → A1 d = A d) → ∃ A', fX12_fillsFits_b191 KK (fX12_fillsFits_b105 KK fuel) 0 xm xk xr (nI c) xw (nI x) (mkM F A1 B) = KK 0 xm xk xr (nI (c + 1)) (xw + 1) (mkM F A' B) ∧ (∀ b, b < nb → A' 40 b = nI (if c = 0 ∨ tv b < le b then tv b else le b) ∧ A' 41 b = nI (if c = 0 ∨ gr b < tv b then tv b else gr b)) ∧ ∀ d, ¬ d = 40 → ¬ d = 41 → A' d = A d := by
      intro p q hp hq A1 b40 b41 bO
      unfold fX12_fillsFits_b191
      rw [nI_1]
      obtain ⟨A', z1, z2, z3⟩ := ih (x + 1) fuel (by omega) (by omega) A1 (by rw [bO 9 (by decide) (by decide)]; exact a1) (fun b hb => by rw [bO 32 (by decide) (by decide)]; exact a2 b hb) (fun b hb => by
        rw [b40, b41]
        by_cases e : b = x
        · rw [e, upd_at, upd_at]
          exact ⟨hp, hq⟩
        · rw [upd_ne e, upd_ne e]
          exact a3 b (by omega)) (fun h0 b q1 q2 => by
        rw [b40, b41, upd_ne (by omega), upd_ne (by omega)]
        exact a4 h0 b (by omega) q2)
      exact ⟨A', z1, z2, fun d d1 d2 => by rw [z3 d d1 d2, bO d d1 d2]⟩
    have idu : ∀ (f : Nat → Int32), upd f x (f x) = f := fun f => by
      funext j
      unfold upd
      split
      · rename_i h; rw [h]
      · rfl
    have b155 : ∀ (p : Int32), p = nI (if c = 0 ∨ tv x < le x then tv x else le x) → ∃ A', fX12_fillsFits_b155 KK (fX12_fillsFits_b105 KK fuel) 0 xm xk xr (nI c) xw (nI x) (mkM F (va_up A 40 (upd (A 40) x p)) B) = KK 0 xm xk xr (nI (c + 1)) (xw + 1) (mkM F A' B) ∧ (∀ b, b < nb → A' 40 b = nI (if c = 0 ∨ tv b < le b then tv b else le b) ∧ A' 41 b = nI (if c = 0 ∨ gr b < tv b then tv b else gr b)) ∧ ∀ d, ¬ d = 40 → ¬ d = 41 → A' d = A d := by
      intro p hp
      have t1' : va_up A 40 (upd (A 40) x p) 32 x = nI (tv x) := by rw [vau_ne (by decide)]; exact t1
      have b177 : c = 0 ∨ gr x < tv x → ∃ A', fX12_fillsFits_b177 KK (fX12_fillsFits_b105 KK fuel) 0 xm xk xr (nI c) xw (nI x) (mkM F (va_up A 40 (upd (A 40) x p)) B) = KK 0 xm xk xr (nI (c + 1)) (xw + 1) (mkM F A' B) ∧ (∀ b, b < nb → A' 40 b = nI (if c = 0 ∨ tv b < le b then tv b else le b) ∧ A' 41 b = nI (if c = 0 ∨ gr b < tv b then tv b else gr b)) ∧ ∀ d, ¬ d = 40 → ¬ d = 41 → A' d = A d := by
        intro hc2
        unfold fX12_fillsFits_b177
        simp -implicitDefEqProofs (disch := first | assumption | omega | decide | exact And.intro (by omega) (by omega)) only [mck, mg_0, mp_0, mr_1, mg_2, mp_2, mr_3, mg_4, mp_4, mr_5, mr_6, mr_7, mr_8, mr_9, mg_10, mp_10, mg_11, mp_11, mg_12, mp_12, mg_13, mp_13, mg_14, mp_14, mg_15, mp_15, mg_16, mp_16, mg_17, mp_17, mg_18, mp_18, mg_19, mp_19, mg_20, mp_20, mr_21, mr_22, mr_23, mr_24, mr_25, mr_26, mr_27, mr_28, mr_29, mr_30, mr_31, mr_32, mg_33, mp_33, mr_34, mr_35, mr_36, mr_37, mr_38, mg_39, mp_39, mr_40, mr_41, mr_42, mg_43, mp_43, mr_44, mr_45, mg_46, mp_46, mr_47, mr_48, mg_49, mp_49, mg_50, mp_50, mg_51, mp_51, mr_52, mr_53, mr_54, mg_55, mp_55, mr_56, mr_57, mg_58, mp_58, mg_59, mp_59, mg_60, mp_60, mr_61, mg_62, mp_62, mr_63, mr_64, mr_65, mr_66, mr_67, mr_68, ma_1, ms_1, ma_2, ms_2, ma_3, ms_3, ma_4, ms_4, ma_5, ms_5, ma_6, ms_6, ma_7, ms_7, ma_8, ms_8, ma_9, ms_9, ma_10, ms_10, ma_11, ms_11, ma_12, ms_12, ma_13, ms_13, ma_14, ms_14, ma_15, ms_15, ma_16, ms_16, ma_17, ms_17, ma_18, ms_18, ma_19, ms_19, ma_20, ms_20, ma_21, ms_21, ma_22, ms_22, ma_23, ms_23, ma_24, ms_24, ma_25, ms_25, ma_26, ms_26, ma_27, ms_27, ma_28, ms_28, ma_29, ms_29, ma_30, ms_30, ma_31, ms_31, ma_32, ms_32, ma_33, ms_33, ma_34, ms_34, ma_35, ms_35, ma_36, ms_36, ma_37, ms_37, ma_38, ms_38, ma_39, ms_39, ma_40, ms_40, ma_41, ms_41, ma_42, ms_42, ma_43, ms_43, if_true, if_false, Option.bind_some, cb_e, lt_e, nI_1, hs_nar2, nh4, upd_at, vau_at, ma_30_18, ms_30_18, ma_31_18, ms_31_18, ma_28_0, ms_28_0, ma_28_1, ms_28_1, ma_28_2, ms_28_2, ma_28_3, ms_28_3, ma_28_4, ms_28_4, ma_42_0, ms_42_0, ma_42_1, ms_42_1, ma_42_2, ms_42_2, ma_36_0, ms_36_0, t1']
        exact go p (nI (tv x)) hp (by rw [if_pos hc2]) _ (by rw [vau_ne (by decide), vau_at]) (by rw [vau_at, vau_ne (by decide)]) (fun d d1 d2 => by rw [vau_ne d2, vau_ne d1])
      unfold fX12_fillsFits_b155
      by_cases c0 : c = 0
      · rw [if_pos (by rw [c0]; rfl)]
        exact b177 (Or.inl c0)
      · obtain ⟨o1, o2⟩ := a4 (by omega) x (by omega) (by omega)
        have o2' : va_up A 40 (upd (A 40) x p) 41 x = nI (gr x) := by rw [vau_ne (by decide)]; exact o2
        rw [if_neg (nI_ne0 (by omega) hc)]
        simp -implicitDefEqProofs (disch := first | assumption | omega | decide | exact And.intro (by omega) (by omega)) only [mck, mg_0, mp_0, mr_1, mg_2, mp_2, mr_3, mg_4, mp_4, mr_5, mr_6, mr_7, mr_8, mr_9, mg_10, mp_10, mg_11, mp_11, mg_12, mp_12, mg_13, mp_13, mg_14, mp_14, mg_15, mp_15, mg_16, mp_16, mg_17, mp_17, mg_18, mp_18, mg_19, mp_19, mg_20, mp_20, mr_21, mr_22, mr_23, mr_24, mr_25, mr_26, mr_27, mr_28, mr_29, mr_30, mr_31, mr_32, mg_33, mp_33, mr_34, mr_35, mr_36, mr_37, mr_38, mg_39, mp_39, mr_40, mr_41, mr_42, mg_43, mp_43, mr_44, mr_45, mg_46, mp_46, mr_47, mr_48, mg_49, mp_49, mg_50, mp_50, mg_51, mp_51, mr_52, mr_53, mr_54, mg_55, mp_55, mr_56, mr_57, mg_58, mp_58, mg_59, mp_59, mg_60, mp_60, mr_61, mg_62, mp_62, mr_63, mr_64, mr_65, mr_66, mr_67, mr_68, ma_1, ms_1, ma_2, ms_2, ma_3, ms_3, ma_4, ms_4, ma_5, ms_5, ma_6, ms_6, ma_7, ms_7, ma_8, ms_8, ma_9, ms_9, ma_10, ms_10, ma_11, ms_11, ma_12, ms_12, ma_13, ms_13, ma_14, ms_14, ma_15, ms_15, ma_16, ms_16, ma_17, ms_17, ma_18, ms_18, ma_19, ms_19, ma_20, ms_20, ma_21, ms_21, ma_22, ms_22, ma_23, ms_23, ma_24, ms_24, ma_25, ms_25, ma_26, ms_26, ma_27, ms_27, ma_28, ms_28, ma_29, ms_29, ma_30, ms_30, ma_31, ms_31, ma_32, ms_32, ma_33, ms_33, ma_34, ms_34, ma_35, ms_35, ma_36, ms_36, ma_37, ms_37, ma_38, ms_38, ma_39, ms_39, ma_40, ms_40, ma_41, ms_41, ma_42, ms_42, ma_43, ms_43, if_true, if_false, Option.bind_some, cb_e, lt_e, nI_1, hs_nar2, nh4, upd_at, vau_at, ma_30_18, ms_30_18, ma_31_18, ms_31_18, ma_28_0, ms_28_0, ma_28_1, ms_28_1, ma_28_2, ms_28_2, ma_28_3, ms_28_3, ma_28_4, ms_28_4, ma_42_0, ms_42_0, ma_42_1, ms_42_1, ma_42_2, ms_42_2, ma_36_0, ms_36_0, t1', o2']
        by_cases c1 : gr x < tv x
        · rw [if_neg (nI_ge c1 (by omega))]
          exact b177 (Or.inr c1)
        · rw [if_pos (nI_le (by omega) (by omega))]
          exact go p (A 41 x) hp (by rw [if_neg (fun q => q.elim c0 c1)]; exact o2) _ (by rw [vau_at]) (by rw [vau_ne (by decide), idu]) (fun d d1 d2 => vau_ne d1)
    have b141 : c = 0 ∨ tv x < le x → ∃ A', fX12_fillsFits_b141 KK (fX12_fillsFits_b105 KK fuel) 0 xm xk xr (nI c) xw (nI x) (mkM F A B) = KK 0 xm xk xr (nI (c + 1)) (xw + 1) (mkM F A' B) ∧ (∀ b, b < nb → A' 40 b = nI (if c = 0 ∨ tv b < le b then tv b else le b) ∧ A' 41 b = nI (if c = 0 ∨ gr b < tv b then tv b else gr b)) ∧ ∀ d, ¬ d = 40 → ¬ d = 41 → A' d = A d := by
      intro hc2
      unfold fX12_fillsFits_b141
      simp -implicitDefEqProofs (disch := first | assumption | omega | decide | exact And.intro (by omega) (by omega)) only [mck, mg_0, mp_0, mr_1, mg_2, mp_2, mr_3, mg_4, mp_4, mr_5, mr_6, mr_7, mr_8, mr_9, mg_10, mp_10, mg_11, mp_11, mg_12, mp_12, mg_13, mp_13, mg_14, mp_14, mg_15, mp_15, mg_16, mp_16, mg_17, mp_17, mg_18, mp_18, mg_19, mp_19, mg_20, mp_20, mr_21, mr_22, mr_23, mr_24, mr_25, mr_26, mr_27, mr_28, mr_29, mr_30, mr_31, mr_32, mg_33, mp_33, mr_34, mr_35, mr_36, mr_37, mr_38, mg_39, mp_39, mr_40, mr_41, mr_42, mg_43, mp_43, mr_44, mr_45, mg_46, mp_46, mr_47, mr_48, mg_49, mp_49, mg_50, mp_50, mg_51, mp_51, mr_52, mr_53, mr_54, mg_55, mp_55, mr_56, mr_57, mg_58, mp_58, mg_59, mp_59, mg_60, mp_60, mr_61, mg_62, mp_62, mr_63, mr_64, mr_65, mr_66, mr_67, mr_68, ma_1, ms_1, ma_2, ms_2, ma_3, ms_3, ma_4, ms_4, ma_5, ms_5, ma_6, ms_6, ma_7, ms_7, ma_8, ms_8, ma_9, ms_9, ma_10, ms_10, ma_11, ms_11, ma_12, ms_12, ma_13, ms_13, ma_14, ms_14, ma_15, ms_15, ma_16, ms_16, ma_17, ms_17, ma_18, ms_18, ma_19, ms_19, ma_20, ms_20, ma_21, ms_21, ma_22, ms_22, ma_23, ms_23, ma_24, ms_24, ma_25, ms_25, ma_26, ms_26, ma_27, ms_27, ma_28, ms_28, ma_29, ms_29, ma_30, ms_30, ma_31, ms_31, ma_32, ms_32, ma_33, ms_33, ma_34, ms_34, ma_35, ms_35, ma_36, ms_36, ma_37, ms_37, ma_38, ms_38, ma_39, ms_39, ma_40, ms_40, ma_41, ms_41, ma_42, ms_42, ma_43, ms_43, if_true, if_false, Option.bind_some, cb_e, lt_e, nI_1, hs_nar2, nh4, upd_at, vau_at, ma_30_18, ms_30_18, ma_31_18, ms_31_18, ma_28_0, ms_28_0, ma_28_1, ms_28_1, ma_28_2, ms_28_2, ma_28_3, ms_28_3, ma_28_4, ms_28_4, ma_42_0, ms_42_0, ma_42_1, ms_42_1, ma_42_2, ms_42_2, ma_36_0, ms_36_0, t1]
      exact b155 (nI (tv x)) (by rw [if_pos hc2])
    rw [fX12_fillsFits_b105]
    simp -implicitDefEqProofs (disch := first | assumption | omega | decide | exact And.intro (by omega) (by omega)) only [mck, mg_0, mp_0, mr_1, mg_2, mp_2, mr_3, mg_4, mp_4, mr_5, mr_6, mr_7, mr_8, mr_9, mg_10, mp_10, mg_11, mp_11, mg_12, mp_12, mg_13, mp_13, mg_14, mp_14, mg_15, mp_15, mg_16, mp_16, mg_17, mp_17, mg_18, mp_18, mg_19, mp_19, mg_20, mp_20, mr_21, mr_22, mr_23, mr_24, mr_25, mr_26, mr_27, mr_28, mr_29, mr_30, mr_31, mr_32, mg_33, mp_33, mr_34, mr_35, mr_36, mr_37, mr_38, mg_39, mp_39, mr_40, mr_41, mr_42, mg_43, mp_43, mr_44, mr_45, mg_46, mp_46, mr_47, mr_48, mg_49, mp_49, mg_50, mp_50, mg_51, mp_51, mr_52, mr_53, mr_54, mg_55, mp_55, mr_56, mr_57, mg_58, mp_58, mg_59, mp_59, mg_60, mp_60, mr_61, mg_62, mp_62, mr_63, mr_64, mr_65, mr_66, mr_67, mr_68, ma_1, ms_1, ma_2, ms_2, ma_3, ms_3, ma_4, ms_4, ma_5, ms_5, ma_6, ms_6, ma_7, ms_7, ma_8, ms_8, ma_9, ms_9, ma_10, ms_10, ma_11, ms_11, ma_12, ms_12, ma_13, ms_13, ma_14, ms_14, ma_15, ms_15, ma_16, ms_16, ma_17, ms_17, ma_18, ms_18, ma_19, ms_19, ma_20, ms_20, ma_21, ms_21, ma_22, ms_22, ma_23, ms_23, ma_24, ms_24, ma_25, ms_25, ma_26, ms_26, ma_27, ms_27, ma_28, ms_28, ma_29, ms_29, ma_30, ms_30, ma_31, ms_31, ma_32, ms_32, ma_33, ms_33, ma_34, ms_34, ma_35, ms_35, ma_36, ms_36, ma_37, ms_37, ma_38, ms_38, ma_39, ms_39, ma_40, ms_40, ma_41, ms_41, ma_42, ms_42, ma_43, ms_43, if_true, if_false, Option.bind_some, cb_e, lt_e, nI_1, hs_nar2, nh4, upd_at, vau_at, ma_30_18, ms_30_18, ma_31_18, ms_31_18, ma_28_0, ms_28_0, ma_28_1, ms_28_1, ma_28_2, ms_28_2, ma_28_3, ms_28_3, ma_28_4, ms_28_4, ma_42_0, ms_42_0, ma_42_1, ms_42_1, ma_42_2, ms_42_2, ma_36_0, ms_36_0, h18, a1]
    rw [if_neg (nI_ge (by omega) (by omega))]
    by_cases c0 : c = 0
    · rw [if_pos (by rw [c0]; rfl)]
      exact b141 (Or.inl c0)
    · obtain ⟨o1, o2⟩ := a4 (by omega) x (by omega) (by omega)
      rw [if_neg (nI_ne0 (by omega) hc)]
      simp -implicitDefEqProofs (disch := first | assumption | omega | decide | exact And.intro (by omega) (by omega)) only [mck, mg_0, mp_0, mr_1, mg_2, mp_2, mr_3, mg_4, mp_4, mr_5, mr_6, mr_7, mr_8, mr_9, mg_10, mp_10, mg_11, mp_11, mg_12, mp_12, mg_13, mp_13, mg_14, mp_14, mg_15, mp_15, mg_16, mp_16, mg_17, mp_17, mg_18, mp_18, mg_19, mp_19, mg_20, mp_20, mr_21, mr_22, mr_23, mr_24, mr_25, mr_26, mr_27, mr_28, mr_29, mr_30, mr_31, mr_32, mg_33, mp_33, mr_34, mr_35, mr_36, mr_37, mr_38, mg_39, mp_39, mr_40, mr_41, mr_42, mg_43, mp_43, mr_44, mr_45, mg_46, mp_46, mr_47, mr_48, mg_49, mp_49, mg_50, mp_50, mg_51, mp_51, mr_52, mr_53, mr_54, mg_55, mp_55, mr_56, mr_57, mg_58, mp_58, mg_59, mp_59, mg_60, mp_60, mr_61, mg_62, mp_62, mr_63, mr_64, mr_65, mr_66, mr_67, mr_68, ma_1, ms_1, ma_2, ms_2, ma_3, ms_3, ma_4, ms_4, ma_5, ms_5, ma_6, ms_6, ma_7, ms_7, ma_8, ms_8, ma_9, ms_9, ma_10, ms_10, ma_11, ms_11, ma_12, ms_12, ma_13, ms_13, ma_14, ms_14, ma_15, ms_15, ma_16, ms_16, ma_17, ms_17, ma_18, ms_18, ma_19, ms_19, ma_20, ms_20, ma_21, ms_21, ma_22, ms_22, ma_23, ms_23, ma_24, ms_24, ma_25, ms_25, ma_26, ms_26, ma_27, ms_27, ma_28, ms_28, ma_29, ms_29, ma_30, ms_30, ma_31, ms_31, ma_32, ms_32, ma_33, ms_33, ma_34, ms_34, ma_35, ms_35, ma_36, ms_36, ma_37, ms_37, ma_38, ms_38, ma_39, ms_39, ma_40, ms_40, ma_41, ms_41, ma_42, ms_42, ma_43, ms_43, if_true, if_false, Option.bind_some, cb_e, lt_e, nI_1, hs_nar2, nh4, upd_at, vau_at, ma_30_18, ms_30_18, ma_31_18, ms_31_18, ma_28_0, ms_28_0, ma_28_1, ms_28_1, ma_28_2, ms_28_2, ma_28_3, ms_28_3, ma_28_4, ms_28_4, ma_42_0, ms_42_0, ma_42_1, ms_42_1, ma_42_2, ms_42_2, ma_36_0, ms_36_0, t1, o1]
      by_cases c1 : tv x < le x
      · rw [if_neg (nI_ge c1 (by omega))]
        exact b141 (Or.inr c1)
      · rw [if_pos (nI_le (by omega) (by omega))]
        have := b155 (A 40 x) (by rw [if_neg (fun q => q.elim c0 c1)]; exact o1)
        rw [idu, vau_id] at this
        exact this
end MF
