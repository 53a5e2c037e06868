/-! ===== fits, span: the model's count ===== -/
theorem leM_b {G : Nat → Bool} {v : Nat → Nat} {N : Nat} (hv : ∀ w, v w ≤ N) : ∀ W, leM G v W ≤ N ∧ grM G v W ≤ N
  | 0 => ⟨Nat.zero_le _, Nat.zero_le _⟩
  | W + 1 => by
    obtain ⟨h1, h2⟩ := leM_b (G := G) hv W
    have h3 := hv W
    rw [leM, grM]
    by_cases c : G W = true
    · rw [if_pos c, if_pos c]
      constructor
      · split <;> omega
      · split <;> omega
    · rw [if_neg c, if_neg c]
      exact ⟨h1, h2⟩
theorem cnG_le (G : Nat → Bool) : ∀ W, cnG G W ≤ W
  | 0 => Nat.le_refl 0
  | W + 1 => by
    have := cnG_le G W
    rw [cnG_s]
    split <;> omega
theorem pow66 {m n : Nat} (hm : m ≤ 6) (hn : n ≤ 6) : m ^ n ≤ 46656 := Nat.le_trans (Nat.pow_le_pow_left hm n) (Nat.le_trans (Nat.pow_le_pow_right (by decide) hn) (by decide))
def gM (T : TD) (sp : Nat → AP) (sd : Nat → Int32) (K m w : Nat) : Bool := soF T sp sd (trD (tNb T) (dgs m (tNb T) w)) K 0
section MF2
variable {lv : Nat} {T : TD} {n7 : Nat} {sp : Nat → AP} {sd : Nat → Int32} {ma : Int}
theorem m_fit_go {m K : Nat} (hm : 0 < m) (hm6 : m ≤ 6) (hK : K ≤ n7) : ∀ k w fuel, w + k = m ^ tNb T → k < fuel → ∀ {F : Nat → Int32} {A : Nat → Nat → Int32} {B : Nat → Nat → Int64}, MFit F A lv T n7 sp sd ma → (∀ b, tNb T ≤ b → b < 6 → A 32 b = 0) → (0 < cnG (gM T sp sd K m) w → ∀ b, b < tNb T → A 40 b = nI (leM (gM T sp sd K m) (fun w => dgs m (tNb T) w b + 1) w) ∧ A 41 b = nI (grM (gM T sp sd K m) (fun w => dgs m (tNb T) w b + 1) w)) → ∃ F' A' B', fX12_fillsFits_b39 fuel 0 (nI m) (nI K) (nI (m ^ tNb T)) (nI (cnG (gM T sp sd K m) w)) (nI w) (mkM F A B) = some (nI (cnG (gM T sp sd K m) (m ^ tNb T)), mkM F' A' B') ∧ MW F F' A A' B B' ∧ (0 < cnG (gM T sp sd K m) (m ^ tNb T) → ∀ b, b < tNb T → A' 40 b = nI (leM (gM T sp sd K m) (fun w => dgs m (tNb T) w b + 1) (m ^ tNb T)) ∧ A' 41 b = nI (grM (gM T sp sd K m) (fun w => dgs m (tNb T) w b + 1) (m ^ tNb T))) := by
  intro k
  induction k with
  | zero =>
    intro w fuel h1 h2 F A B hF hA hL
    obtain ⟨fuel, rfl⟩ : ∃ q, fuel = q + 1 := ⟨fuel - 1, by omega⟩
    have hw : w = m ^ tNb T := by omega
    have p6 := pow66 hm6 hF.2.1.1.1
    rw [fX12_fillsFits_b39, if_pos (nI_le (by omega) (by omega))]
    rw [hw] at hL ⊢
    exact ⟨F, A, B, rfl, MW.rf, hL⟩
  | succ k ih =>
    intro w fuel h1 h2 F A B hF hA hL
    obtain ⟨fuel, rfl⟩ : ∃ q, fuel = q + 1 := ⟨fuel - 1, by omega⟩
    have hG := hF.2.1.1
    have p6 := pow66 hm6 hG.1
    have w31 : w < 2 ^ 31 := by omega
    have h9 := hF.2.1.2.1
    have h18 := hF.1.1
    have hlv := hF.1.2
    obtain ⟨A1, z1, z2, z3, z4⟩ := m_digits (F := F) (B := B) h18 hlv hG.1 hm hm6 w31 (fX12_fillsFits_b39 fuel) (nI K) (nI (m ^ tNb T)) (nI (cnG (gM T sp sd K m) w)) (nI w) (tNb T) 0 FU (by omega) (by have := hG.1; unfold FU; omega) A h9 (fun b hb => absurd hb (by omega))
    rw [Nat.pow_zero, Nat.div_one] at z1
    have mw1 : MW F F A A1 B B := ⟨fun _ _ => rfl, fun c _ _ _ h4 _ _ => z4 c h4, fun _ _ _ => rfl⟩
    have hF1 := hF.mw mw1
    have htr : ∀ b, b < 6 → A1 32 b = iI (trD (tNb T) (dgs m (tNb T) w) b) := fun b hb => by
      unfold trD
      by_cases c : b < tNb T
      · rw [if_pos c, z2 b c, iI_nI]; rfl
      · rw [if_neg c, z3 b (by omega), hA b (by omega) hb]; rfl
    obtain ⟨F2, A2, B2, q1, q2⟩ := m_isSo (trD_tr (m := m) hm6 (fun b => dgs_lt hm b)) hK B hF1 htr
    have q1' : fX12_isSo 0 (nI K) (mkM F A1 B) = some (b2 (gM T sp sd K m w), mkM F2 A2 B2) := q1
    have mw2 : MW F F2 A A2 B B2 := mw1.tr q2.mw
    have hF2 := hF.mw mw2
    have A2t : ∀ b, b < tNb T → A2 32 b = nI (dgs m (tNb T) w b + 1) := fun b hb => by rw [q2.2.1 32 (by decide) (by decide) (by decide)]; exact z2 b hb
    have A2z : ∀ b, tNb T ≤ b → b < 6 → A2 32 b = 0 := fun b hb h6 => by rw [q2.2.1 32 (by decide) (by decide) (by decide), z3 b hb]; exact hA b hb h6
    have a40 : A2 40 = A 40 := by rw [q2.2.1 40 (by decide) (by decide) (by decide), z4 40 (by decide)]
    have a41 : A2 41 = A 41 := by rw [q2.2.1 41 (by decide) (by decide) (by decide), z4 41 (by decide)]
    have cl := cnG_le (gM T sp sd K m) w
    rw [fX12_fillsFits_b39, if_neg (nI_ge (by omega) (by omega))]
    rw [show fX12_fillsFits_b52 (fX12_fillsFits_b39 fuel) FU 0 (nI m) (nI K) (nI (m ^ tNb T)) (nI (cnG (gM T sp sd K m) w)) (nI w) (nI w) 0 (mkM F A B) = _ from z1]
    unfold fX12_fillsFits_b91
    simp -implicitDefEqProofs (disch := first | assumption | omega | decide | exact And.intro (by omega) (by omega)) only [mck, mg_0, mp_0, mr_1, mg_2, mp_2, mr_3, mg_4, mp_4, mr_5, mr_6, mr_7, mr_8, mr_9, mg_10, mp_10, mg_11, mp_11, mg_12, mp_12, mg_13, mp_13, mg_14, mp_14, mg_15, mp_15, mg_16, mp_16, mg_17, mp_17, mg_18, mp_18, mg_19, mp_19, mg_20, mp_20, mr_21, mr_22, mr_23, mr_24, mr_25, mr_26, mr_27, mr_28, mr_29, mr_30, mr_31, mr_32, mg_33, mp_33, mr_34, mr_35, mr_36, mr_37, mr_38, mg_39, mp_39, mr_40, mr_41, mr_42, mg_43, mp_43, mr_44, mr_45, mg_46, mp_46, mr_47, mr_48, mg_49, mp_49, mg_50, mp_50, mg_51, mp_51, mr_52, mr_53, mr_54, mg_55, mp_55, mr_56, mr_57, mg_58, mp_58, mg_59, mp_59, mg_60, mp_60, mr_61, mg_62, mp_62, mr_63, mr_64, mr_65, mr_66, mr_67, mr_68, ma_1, ms_1, ma_2, ms_2, ma_3, ms_3, ma_4, ms_4, ma_5, ms_5, ma_6, ms_6, ma_7, ms_7, ma_8, ms_8, ma_9, ms_9, ma_10, ms_10, ma_11, ms_11, ma_12, ms_12, ma_13, ms_13, ma_14, ms_14, ma_15, ms_15, ma_16, ms_16, ma_17, ms_17, ma_18, ms_18, ma_19, ms_19, ma_20, ms_20, ma_21, ms_21, ma_22, ms_22, ma_23, ms_23, ma_24, ms_24, ma_25, ms_25, ma_26, ms_26, ma_27, ms_27, ma_28, ms_28, ma_29, ms_29, ma_30, ms_30, ma_31, ms_31, ma_32, ms_32, ma_33, ms_33, ma_34, ms_34, ma_35, ms_35, ma_36, ms_36, ma_37, ms_37, ma_38, ms_38, ma_39, ms_39, ma_40, ms_40, ma_41, ms_41, ma_42, ms_42, ma_43, ms_43, if_true, if_false, Option.bind_some, cb_e, lt_e, nI_1, hs_nar2, nh4, upd_at, vau_at, ma_30_18, ms_30_18, ma_31_18, ms_31_18, ma_28_0, ms_28_0, ma_28_1, ms_28_1, ma_28_2, ms_28_2, ma_28_3, ms_28_3, ma_28_4, ms_28_4, ma_42_0, ms_42_0, ma_42_1, ms_42_1, ma_42_2, ms_42_2, ma_36_0, ms_36_0, q1']
    have ec := cnG_s (gM T sp sd K m) w
    cases hg : gM T sp sd K m w with
    | false =>
      rw [if_pos (show b2 false = 0 by decide)]
      unfold fX12_fillsFits_b200
      rw [nI_1]
      rw [hg, if_neg (by decide), Nat.add_zero] at ec
      obtain ⟨F3, A3, B3, g1, g2, g3⟩ := ih (w + 1) fuel (by omega) (by omega) hF2 A2z (fun h0 b hb => by
        rw [ec] at h0
        rw [a40, a41, leM, grM, hg, if_neg (by decide), if_neg (by decide)]
        exact hL h0 b hb)
      rw [ec] at g1
      exact ⟨F3, A3, B3, g1, mw2.tr g2, g3⟩
    | true =>
      rw [if_neg (show ¬ b2 true = 0 by decide)]
      rw [hg, if_pos rfl] at ec
      have hb6 : ∀ b, dgs m (tNb T) w b + 1 < 100 := fun b => by have := dgs_lt (n := tNb T) (w := w) hm b; omega
      have lb : ∀ b, leM (gM T sp sd K m) (fun w => dgs m (tNb T) w b + 1) w ≤ 6 ∧ grM (gM T sp sd K m) (fun w => dgs m (tNb T) w b + 1) w ≤ 6 := fun b => leM_b (fun w => by have := dgs_lt (n := tNb T) (w := w) hm b; omega) w
      obtain ⟨A3, x1, x2, x3⟩ := m_widen (F := F2) (B := B2) hF2.1.1 hlv hG.1 (c := cnG (gM T sp sd K m) w) (by omega) (tv := fun b => dgs m (tNb T) w b + 1) (le := fun b => leM (gM T sp sd K m) (fun w => dgs m (tNb T) w b + 1) w) (gr := fun b => grM (gM T sp sd K m) (fun w => dgs m (tNb T) w b + 1) w) hb6 (fun b => by have := (lb b).1; omega) (fun b => by have := (lb b).2; omega) (fX12_fillsFits_b39 fuel) (nI m) (nI K) (nI (m ^ tNb T)) (nI w) (tNb T) 0 FU (by omega) (by have := hG.1; unfold FU; omega) A2 hF2.2.1.2.1 A2t (fun b hb => absurd hb (by omega)) (fun h0 b _ hb => by rw [a40, a41]; exact hL h0 b hb)
      have mw3 : MW F2 F2 A2 A3 B2 B2 := ⟨fun _ _ => rfl, fun c _ _ _ _ h5 h6 => x3 c h5 h6, fun _ _ _ => rfl⟩
      obtain ⟨F4, A4, B4, g1, g2, g3⟩ := ih (w + 1) fuel (by omega) (by omega) (hF2.mw mw3) (fun b hb h6 => by rw [x3 32 (by decide) (by decide)]; exact A2z b hb h6) (fun h0 b hb => by
        rw [leM, grM, hg, if_pos rfl, if_pos rfl]
        exact x2 b hb)
      rw [ec, ← nI_1 w] at g1
      refine ⟨F4, A4, B4, ?_, mw2.tr (mw3.tr g2), g3⟩
      rw [show fX12_fillsFits_b105 (fX12_fillsFits_b39 fuel) FU 0 (nI m) (nI K) (nI (m ^ tNb T)) (nI (cnG (gM T sp sd K m) w)) (nI w) 0 (mkM F2 A2 B2) = _ from x1]
      exact g1
theorem m_rows {F : Nat → Int32} {A : Nat → Nat → Int32} {B : Nat → Nat → Int64} (h18 : F 18 = nI lv) (hlv : lv ≤ 1) {nb : Nat} (hnb : nb ≤ 6) (h9 : A 9 lv = nI nb) (m : Nat) (xk : Int32) : ∀ k x fuel, x + k = nb → k < fuel → fX12_fillsFits_b9 fuel 0 (nI m) xk (nI (m ^ x)) (nI x) (mkM F A B) = fX12_fillsFits_b33 0 (nI m) xk (nI (m ^ nb)) (mkM F A B) := by
  intro k
  induction k with
  | zero =>
    intro x fuel h1 h2
    obtain ⟨fuel, rfl⟩ : ∃ q, fuel = q + 1 := ⟨fuel - 1, by omega⟩
    have : x = nb := by omega
    subst this
    rw [fX12_fillsFits_b9]
    simp -implicitDefEqProofs (disch := first | assumption | omega | decide | exact And.intro (by omega) (by omega)) only [mck, mg_0, mp_0, mr_1, mg_2, mp_2, mr_3, mg_4, mp_4, mr_5, mr_6, mr_7, mr_8, mr_9, mg_10, mp_10, mg_11, mp_11, mg_12, mp_12, mg_13, mp_13, mg_14, mp_14, mg_15, mp_15, mg_16, mp_16, mg_17, mp_17, mg_18, mp_18, mg_19, mp_19, mg_20, mp_20, mr_21, mr_22, mr_23, mr_24, mr_25, mr_26, mr_27, mr_28, mr_29, mr_30, mr_31, mr_32, mg_33, mp_33, mr_34, mr_35, mr_36, mr_37, mr_38, mg_39, mp_39, mr_40, mr_41, mr_42, mg_43, mp_43, mr_44, mr_45, mg_46, mp_46, mr_47, mr_48, mg_49, mp_49, mg_50, mp_50, mg_51, mp_51, mr_52, mr_53, mr_54, mg_55, mp_55, mr_56, mr_57, mg_58, mp_58, mg_59, mp_59, mg_60, mp_60, mr_61, mg_62, mp_62, mr_63, mr_64, mr_65, mr_66, mr_67, mr_68, ma_1, ms_1, ma_2, ms_2, ma_3, ms_3, ma_4, ms_4, ma_5, ms_5, ma_6, ms_6, ma_7, ms_7, ma_8, ms_8, ma_9, ms_9, ma_10, ms_10, ma_11, ms_11, ma_12, ms_12, ma_13, ms_13, ma_14, ms_14, ma_15, ms_15, ma_16, ms_16, ma_17, ms_17, ma_18, ms_18, ma_19, ms_19, ma_20, ms_20, ma_21, ms_21, ma_22, ms_22, ma_23, ms_23, ma_24, ms_24, ma_25, ms_25, ma_26, ms_26, ma_27, ms_27, ma_28, ms_28, ma_29, ms_29, ma_30, ms_30, ma_31, ms_31, ma_32, ms_32, ma_33, ms_33, ma_34, ms_34, ma_35, ms_35, ma_36, ms_36, ma_37, ms_37, ma_38, ms_38, ma_39, ms_39, ma_40, ms_40, ma_41, ms_41, ma_42, ms_42, ma_43, ms_43, if_true, if_false, Option.bind_some, cb_e, lt_e, nI_1, hs_nar2, nh4, upd_at, vau_at, ma_30_18, ms_30_18, ma_31_18, ms_31_18, ma_28_0, ms_28_0, ma_28_1, ms_28_1, ma_28_2, ms_28_2, ma_28_3, ms_28_3, ma_28_4, ms_28_4, ma_42_0, ms_42_0, ma_42_1, ms_42_1, ma_42_2, ms_42_2, ma_36_0, ms_36_0, h18, h9]
    rw [if_pos (nI_le (by omega) (by omega))]
  | succ k ih =>
    intro x fuel h1 h2
    obtain ⟨fuel, rfl⟩ : ∃ q, fuel = q + 1 := ⟨fuel - 1, by omega⟩
    have e := ih (x + 1) fuel (by omega) (by omega)
    have em : nI (m ^ x) * nI m = nI (m ^ (x + 1)) := by rw [pk_mul, ← Nat.pow_succ]
    rw [fX12_fillsFits_b9]
    simp -implicitDefEqProofs (disch := first | assumption | omega | decide | exact And.intro (by omega) (by omega)) only [mck, mg_0, mp_0, mr_1, mg_2, mp_2, mr_3, mg_4, mp_4, mr_5, mr_6, mr_7, mr_8, mr_9, mg_10, mp_10, mg_11, mp_11, mg_12, mp_12, mg_13, mp_13, mg_14, mp_14, mg_15, mp_15, mg_16, mp_16, mg_17, mp_17, mg_18, mp_18, mg_19, mp_19, mg_20, mp_20, mr_21, mr_22, mr_23, mr_24, mr_25, mr_26, mr_27, mr_28, mr_29, mr_30, mr_31, mr_32, mg_33, mp_33, mr_34, mr_35, mr_36, mr_37, mr_38, mg_39, mp_39, mr_40, mr_41, mr_42, mg_43, mp_43, mr_44, mr_45, mg_46, mp_46, mr_47, mr_48, mg_49, mp_49, mg_50, mp_50, mg_51, mp_51, mr_52, mr_53, mr_54, mg_55, mp_55, mr_56, mr_57, mg_58, mp_58, mg_59, mp_59, mg_60, mp_60, mr_61, mg_62, mp_62, mr_63, mr_64, mr_65, mr_66, mr_67, mr_68, ma_1, ms_1, ma_2, ms_2, ma_3, ms_3, ma_4, ms_4, ma_5, ms_5, ma_6, ms_6, ma_7, ms_7, ma_8, ms_8, ma_9, ms_9, ma_10, ms_10, ma_11, ms_11, ma_12, ms_12, ma_13, ms_13, ma_14, ms_14, ma_15, ms_15, ma_16, ms_16, ma_17, ms_17, ma_18, ms_18, ma_19, ms_19, ma_20, ms_20, ma_21, ms_21, ma_22, ms_22, ma_23, ms_23, ma_24, ms_24, ma_25, ms_25, ma_26, ms_26, ma_27, ms_27, ma_28, ms_28, ma_29, ms_29, ma_30, ms_30, ma_31, ms_31, ma_32, ms_32, ma_33, ms_33, ma_34, ms_34, ma_35, ms_35, ma_36, ms_36, ma_37, ms_37, ma_38, ms_38, ma_39, ms_39, ma_40, ms_40, ma_41, ms_41, ma_42, ms_42, ma_43, ms_43, if_true, if_false, Option.bind_some, cb_e, lt_e, nI_1, hs_nar2, nh4, upd_at, vau_at, ma_30_18, ms_30_18, ma_31_18, ms_31_18, ma_28_0, ms_28_0, ma_28_1, ms_28_1, ma_28_2, ms_28_2, ma_28_3, ms_28_3, ma_28_4, ms_28_4, ma_42_0, ms_42_0, ma_42_1, ms_42_1, ma_42_2, ms_42_2, ma_36_0, ms_36_0, h18, h9]
    rw [if_neg (nI_ge (by omega) (by omega)), em]
    exact e
end MF2
section MF3
variable {F F' : Nat → Int32} {A A' : Nat → Nat → Int32} {B B' : Nat → Nat → Int64} {Fc Fc' Ac Ac' : Nat → Nat → Int32} {Bc Bc' : Nat → Nat → Int64} {rc rc' : Nat → Nat} {t lv : Nat} {T : TD} {u w : Nat} {ps : Nat → AP} {n7 : Nat} {sp : Nat → AP}
theorem m_fillsFits (hC : Core F A B Fc Ac Bc rc t lv T u w ps n7 sp) {m K : Nat} (hm : 0 < m) (hm6 : m ≤ 6) (hK : K ≤ n7) : ∃ F' A' B', fX12_fillsFits 0 (nI m) (nI K) (mkM F A B) = some (nI (cnG (gM T sp (A 39) K m) (m ^ tNb T)), mkM F' A' B') ∧ ((∀ k, ¬ k = 46 → ¬ k = 49 → ¬ k = 50 → ¬ k = 51 → F' k = F k) ∧ (∀ c, ¬ c = 28 → ¬ c = 29 → ¬ c = 31 → ¬ c = 32 → ¬ c = 40 → ¬ c = 41 → A' c = A c) ∧ ∀ c, ¬ c = 33 → ¬ c = 34 → B' c = B c) ∧ (0 < cnG (gM T sp (A 39) K m) (m ^ tNb T) → ∀ b, b < tNb T → A' 40 b = nI (leM (gM T sp (A 39) K m) (fun w => dgs m (tNb T) w b + 1) (m ^ tNb T)) ∧ A' 41 b = nI (grM (gM T sp (A 39) K m) (fun w => dgs m (tNb T) w b + 1) (m ^ tNb T))) := by
  obtain ⟨F1, A1, ma, p1, p2, p3, p4, p5⟩ := core_copies hC
  obtain ⟨e1, e2, e3, e4⟩ := hC.2.2.2.2.1
  have hF : MFit F1 A1 lv T n7 sp (A 39) ma := ⟨p2.1, p2.2.1, p3, e1, fun j hj => by
    obtain ⟨a1, a2, a3⟩ := e4 j hj
    exact ⟨a1, a2.eq (p4.2.1 38 (by decide) (by decide) (by decide) (by decide)), by rw [p4.2.1 39 (by decide) (by decide) (by decide) (by decide)]⟩⟩
  have p6 := pow66 hm6 hC.2.1.1.1
  obtain ⟨F2, A2, B2, z1, z2, z3⟩ := m_fit_go hm hm6 hK (m ^ tNb T) 0 FU (by omega) (by unfold FU; omega) (B := B) hF (fun b _ hb => by rw [p2.2.2.2.2 b hb]; rfl) (fun h0 => absurd h0 (Nat.lt_irrefl 0))
  have r1 := m_rows (F := F1) (A := A1) (B := B) p2.1.1 p2.1.2 hC.2.1.1.1 p2.2.1.2.1 m (nI K) (tNb T) 0 FU (by omega) (by have := hC.2.1.1.1; unfold FU; omega)
  refine ⟨F2, A2, B2, ?_, ⟨fun k h1 h2 h3 h4 => by rw [z2.1 k h1, p4.1 k h1 h2 h3 h4], fun c h1 h2 h3 h4 h5 h6 => by rw [z2.2.1 c h1 h2 h3 h4 h5 h6, p4.2.1 c h1 h2 h3 h4], fun c h1 h2 => by rw [z2.2.2 c h1 h2, p4.2.2 c h1 h2]⟩, z3⟩
  have r1' : fX12_fillsFits_b9 FU 0 (nI m) (nI K) 1 0 (mkM F1 A1 B) = fX12_fillsFits_b33 0 (nI m) (nI K) (nI (m ^ tNb T)) (mkM F1 A1 B) := r1
  have z1' : fX12_fillsFits_b39 FU 0 (nI m) (nI K) (nI (m ^ tNb T)) 0 0 (mkM F1 A1 B) = some (nI (cnG (gM T sp (A 39) K m) (m ^ tNb T)), mkM F2 A2 B2) := z1
  unfold fX12_fillsFits
  simp -implicitDefEqProofs (disch := first | assumption | omega | decide | exact And.intro (by omega) (by omega)) only [mck, mg_0, mp_0, mr_1, mg_2, mp_2, mr_3, mg_4, mp_4, mr_5, mr_6, mr_7, mr_8, mr_9, mg_10, mp_10, mg_11, mp_11, mg_12, mp_12, mg_13, mp_13, mg_14, mp_14, mg_15, mp_15, mg_16, mp_16, mg_17, mp_17, mg_18, mp_18, mg_19, mp_19, mg_20, mp_20, mr_21, mr_22, mr_23, mr_24, mr_25, mr_26, mr_27, mr_28, mr_29, mr_30, mr_31, mr_32, mg_33, mp_33, mr_34, mr_35, mr_36, mr_37, mr_38, mg_39, mp_39, mr_40, mr_41, mr_42, mg_43, mp_43, mr_44, mr_45, mg_46, mp_46, mr_47, mr_48, mg_49, mp_49, mg_50, mp_50, mg_51, mp_51, mr_52, mr_53, mr_54, mg_55, mp_55, mr_56, mr_57, mg_58, mp_58, mg_59, mp_59, mg_60, mp_60, mr_61, mg_62, mp_62, mr_63, mr_64, mr_65, mr_66, mr_67, mr_68, ma_1, ms_1, ma_2, ms_2, ma_3, ms_3, ma_4, ms_4, ma_5, ms_5, ma_6, ms_6, ma_7, ms_7, ma_8, ms_8, ma_9, ms_9, ma_10, ms_10, ma_11, ms_11, ma_12, ms_12, ma_13, ms_13, ma_14, ms_14, ma_15, ms_15, ma_16, ms_16, ma_17, ms_17, ma_18, ms_18, ma_19, ms_19, ma_20, ms_20, ma_21, ms_21, ma_22, ms_22, ma_23, ms_23, ma_24, ms_24, ma_25, ms_25, ma_26, ms_26, ma_27, ms_27, ma_28, ms_28, ma_29, ms_29, ma_30, ms_30, ma_31, ms_31, ma_32, ms_32, ma_33, ms_33, ma_34, ms_34, ma_35, ms_35, ma_36, ms_36, ma_37, ms_37, ma_38, ms_38, ma_39, ms_39, ma_40, ms_40, ma_41, ms_41, ma_42, ms_42, ma_43, ms_43, if_true, if_false, Option.bind_some, cb_e, lt_e, nI_1, hs_nar2, nh4, upd_at, vau_at, ma_30_18, ms_30_18, ma_31_18, ms_31_18, ma_28_0, ms_28_0, ma_28_1, ms_28_1, ma_28_2, ms_28_2, ma_28_3, ms_28_3, ma_28_4, ms_28_4, ma_42_0, ms_42_0, ma_42_1, ms_42_1, ma_42_2, ms_42_2, ma_36_0, ms_36_0, p1, r1']
  unfold fX12_fillsFits_b33
  exact z1'
end MF3
