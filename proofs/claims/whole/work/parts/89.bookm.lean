/-! ===== a book is told: the model ===== -/
section B89
variable {sd M : Nat} {K V : Nat → Nat} {PL : Nat → Nat}
theorem m_bnd' {F : Nat → Int32} {A : Nat → Nat → Int32} {B : Nat → Nat → Int64} (hK : TkK M K V) {s w : Nat × Nat} {lo hi : Nat} (hs : s.2 ≤ M) (h : MPo F PL s.1 s.2) (hk : MTk A M K V PL) (hw : s.1 = 0 → SlM F w ∧ (¬ w.1 = 0 → w.2 < PL s.2)) (hpl : PL s.2 ≤ 2000) (hlo : lo ≤ 9999) (hhi : hi ≤ 9999) : ∃ F' x, fX12_bounded 0 (nI lo) (nI hi) (mkM F A B) = some (x, mkM F' A B) ∧ MPo F' PL (stp K 17 s).1 (stp K 17 s).2 ∧ (∀ k, ¬ (11 ≤ k ∧ k ≤ 16) → F' k = F k) ∧ F' 12 = F 12 ∧ ((stp K 17 s).1 = 0 → x = nI (V s.2) ∧ SlM F' (slp w (decide (V s.2 < lo ∨ hi < V s.2)) 5 (PL s.2))) := by
  by_cases c : s.1 = 0
  · exact m_bnd hK hs h hk (hw c).1 (hw c).2 hpl hlo hhi
  · have e : stp K 17 s = s := by unfold stp; rw [if_neg c]
    rw [e]
    exact ⟨F, _, m_boundedF h c _ _, h, fun _ _ => rfl, rfl, fun q => absurd q c⟩
theorem m_book73 {F : Nat → Int32} {A : Nat → Nat → Int32} {B : Nat → Nat → Int64} (hK : TkK M K V) {s w : Nat × Nat} {nb j : Nat} (hsd : sd ≤ 1) (hs : s.2 ≤ M) (hs2 : s.1 ≤ 2) (h : MPo F PL s.1 s.2) (hk : MTk A M K V PL) (hw : s.1 = 0 → SlM F w ∧ (¬ w.1 = 0 → w.2 < PL s.2)) (hmono : ∀ a b, a < b → b ≤ M → PL a < PL b) (hpl : ∀ a, a ≤ M → PL a ≤ 2000) (h19 : F 19 = nI sd) (h20 : F 20 = nI nb) (h9 : A 9 sd = nI nb) (hnb : nb < 6) (hj : j < 403) : ∃ F' A' B' x y, fX12_tellBook_b73 0 (nI (6 * sd + nb)) (nI j) (mkM F A B) = some ((), mkM F' A' B') ∧ MPo F' PL (stp K 59 (stp K 17 (stp K 17 s))).1 (stp K 59 (stp K 17 (stp K 17 s))).2 ∧ (∀ k, ¬ (11 ≤ k ∧ k ≤ 16) → ¬ k = 20 → F' k = F k) ∧ F' 12 = F 12 ∧ (∀ a, ¬ a = 9 → ¬ a = 10 → ¬ a = 11 → A' a = A a) ∧ (A' 10 = upd (A 10) (6 * sd + nb) x ∧ A' 11 = upd (A 11) (6 * sd + nb) y) ∧ (¬ (stp K 59 (stp K 17 (stp K 17 s))).1 = 0 → A' 9 = A 9 ∧ B' = B) ∧ ((stp K 59 (stp K 17 (stp K 17 s))).1 = 0 → (x = nI (V s.2) ∧ y = nI (V (s.2 + 1))) ∧ A' 9 = upd (A 9) sd (nI (nb + 1)) ∧ B' = va_up B 8 (vp_updL (B 8) nb (B 6 j)) ∧ F' 20 = nI (nb + 1) ∧ SlM F' (slp (slp w (decide (V s.2 < 1 ∨ 99 < V s.2)) 5 (PL s.2)) (decide (V (s.2 + 1) < 1 ∨ 20 < V (s.2 + 1))) 5 (PL (s.2 + 1)))) := by
  obtain ⟨⟨l1, l2, l3⟩, l4⟩ := stp_ok hK (k := 17) (s := s) (by decide) hs hs2
  obtain ⟨⟨l5, l6, l7⟩, l8⟩ := stp_ok hK (k := 17) (s := stp K 17 s) (by decide) l2 l3
  obtain ⟨⟨l9, l10, l11⟩, l12⟩ := stp_ok hK (k := 59) (s := stp K 17 (stp K 17 s)) (by decide) l6 l7
  have hM := hK.1
  have k12 : 6 * sd + nb < 12 := by omega
  have sd2 : sd < 2 := by omega
  obtain ⟨F1, x, a1, a2, a3, a4, a5⟩ := m_bnd' (B := B) (lo := 1) (hi := 99) hK hs h hk hw (hpl _ hs) (by decide) (by decide)
  have a1' : fX12_bounded 0 1 99 (mkM F A B) = some (x, mkM F1 A B) := a1
  have mk1 : MTk (va_up A 10 (upd (A 10) (6 * sd + nb) x)) M K V PL := by
    unfold MTk at *
    rw [vau_ne (by decide), vau_ne (by decide), vau_ne (by decide)]
    exact hk
  obtain ⟨F2, y, b1, b2, b3, b4, b5⟩ := m_bnd' (B := B) (lo := 1) (hi := 20) (w := slp w (decide (V s.2 < 1 ∨ 99 < V s.2)) 5 (PL s.2)) hK l2 a2 mk1 (fun q => ⟨(a5 q).2, slp_lt (p0 := PL s.2) (hw (l4 q).1).2 (by have := (l4 q).2.1; have := hmono s.2 (stp K 17 s).2 (by omega) l2; omega) (hmono _ _ (by have := (l4 q).2.1; omega) l2)⟩) (hpl _ l2) (by decide) (by decide)
  have b1' : fX12_bounded 0 1 20 (mkM F1 (va_up A 10 (upd (A 10) (6 * sd + nb) x)) B) = some (y, mkM F2 (va_up A 10 (upd (A 10) (6 * sd + nb) x)) B) := b1
  have mk2 : MTk (va_up (va_up A 10 (upd (A 10) (6 * sd + nb) x)) 11 (upd (A 11) (6 * sd + nb) y)) M K V PL := by
    unfold MTk at *
    rw [vau_ne (by decide), vau_ne (by decide), vau_ne (by decide)]
    exact mk1
  obtain ⟨F3, c1, c2, c3⟩ := m_stp (B := B) hK (k := 59) l6 b2 mk2 rfl (by decide)
  have c1' : fX12_must 0 4 (mkM F2 (va_up (va_up A 10 (upd (A 10) (6 * sd + nb) x)) 11 (upd (A 11) (6 * sd + nb) y)) B) = some ((), mkM F3 (va_up (va_up A 10 (upd (A 10) (6 * sd + nb) x)) 11 (upd (A 11) (6 * sd + nb) y)) B) := c1
  have fo : ∀ k, ¬ (11 ≤ k ∧ k ≤ 16) → F3 k = F k := fun k q => by rw [c3 k (by omega) (by omega) (by omega), b3 k q, a3 k q]
  have f12 : F3 12 = F 12 := by rw [c3 12 (by decide) (by decide) (by decide), b4, a4]
  have f13 := c2.1
  have e20 : F3 20 = nI nb := by rw [fo 20 (by decide)]; exact h20
  have e19 : F3 19 = nI sd := by rw [fo 19 (by decide)]; exact h19
  by_cases cz : (stp K 59 (stp K 17 (stp K 17 s))).1 = 0
  · obtain ⟨z1, z2, z3, z4⟩ := l12 cz
    obtain ⟨z5, z6, z7, z8⟩ := l8 z1
    obtain ⟨z9, z10, z11, z12⟩ := l4 z5
    have f13' : F3 13 = 0 := by rw [f13, cz]; rfl
    have z0 : (0 : Int32) ≤ 0 := by decide
    obtain ⟨ex, _⟩ := a5 z5
    obtain ⟨ey, sm⟩ := b5 z1
    rw [z10] at ey sm
    refine ⟨upd F3 20 (nI (nb + 1)), va_up (va_up (va_up A 10 (upd (A 10) (6 * sd + nb) x)) 11 (upd (A 11) (6 * sd + nb) y)) 9 (upd (A 9) sd (nI (nb + 1))), va_up B 8 (vp_updL (B 8) nb (B 6 j)), x, y, ?_, c2.eq (upd_ne (by decide)) (upd_ne (by decide)) (upd_ne (by decide)), fun k q1 q2 => by rw [upd_ne q2]; exact fo k q1, by rw [upd_ne (by decide)]; exact f12, fun a q1 q2 q3 => by rw [vau_ne q1, vau_ne q3, vau_ne q2], ⟨by rw [vau_ne (by decide), vau_ne (by decide), vau_at], by rw [vau_ne (by decide), vau_at]⟩, fun q => absurd cz q, fun _ => ⟨⟨ex, ey⟩, by rw [vau_at], rfl, upd_at _ _ _, (sm.eq c3).1, by rw [upd_ne (by decide)]; exact (sm.eq c3).2.1, fun q => by rw [upd_ne (by decide)]; exact (sm.eq c3).2.2 q⟩⟩
    unfold fX12_tellBook_b73
    simp -implicitDefEqProofs (disch := first | assumption | omega | decide | exact And.intro (by omega) (by omega)) only [mck, mg_0, mp_0, mr_1, mg_2, mp_2, mr_3, mg_4, mp_4, mr_5, mr_6, mr_7, mr_8, mr_9, mg_10, mp_10, mg_11, mp_11, mg_12, mp_12, mg_13, mp_13, mg_14, mp_14, mg_15, mp_15, mg_16, mp_16, mg_17, mp_17, mg_18, mp_18, mg_19, mp_19, mg_20, mp_20, mr_21, mr_22, mr_23, mr_24, mr_25, mr_26, mr_27, mr_28, mr_29, mr_30, mr_31, mr_32, mg_33, mp_33, mr_34, mr_35, mr_36, mr_37, mr_38, mg_39, mp_39, mr_40, mr_41, mr_42, mg_43, mp_43, mr_44, mr_45, mg_46, mp_46, mr_47, mr_48, mg_49, mp_49, mg_50, mp_50, mg_51, mp_51, mr_52, mr_53, mr_54, mg_55, mp_55, mr_56, mr_57, mg_58, mp_58, mg_59, mp_59, mg_60, mp_60, mr_61, mg_62, mp_62, mr_63, mr_64, mr_65, mr_66, mr_67, mr_68, ma_1, ms_1, ma_2, ms_2, ma_3, ms_3, ma_4, ms_4, ma_5, ms_5, ma_6, ms_6, ma_7, ms_7, ma_8, ms_8, ma_9, ms_9, ma_10, ms_10, ma_11, ms_11, ma_12, ms_12, ma_13, ms_13, ma_14, ms_14, ma_15, ms_15, ma_16, ms_16, ma_17, ms_17, ma_18, ms_18, ma_19, ms_19, ma_20, ms_20, ma_21, ms_21, ma_22, ms_22, ma_23, ms_23, ma_24, ms_24, ma_25, ms_25, ma_26, ms_26, ma_27, ms_27, ma_28, ms_28, ma_29, ms_29, ma_30, ms_30, ma_31, ms_31, ma_32, ms_32, ma_33, ms_33, ma_34, ms_34, ma_35, ms_35, ma_36, ms_36, ma_37, ms_37, ma_38, ms_38, ma_39, ms_39, ma_40, ms_40, ma_41, ms_41, ma_42, ms_42, ma_43, ms_43, if_true, if_false, Option.bind_some, cb_e, lt_e, nI_1, hs_nar2, nh4, upd_at, vau_at, ma_30_18, ms_30_18, ma_31_18, ms_31_18, ma_28_0, ms_28_0, ma_28_1, ms_28_1, ma_28_2, ms_28_2, ma_28_3, ms_28_3, ma_28_4, ms_28_4, ma_42_0, ms_42_0, ma_42_1, ms_42_1, ma_42_2, ms_42_2, ma_36_0, ms_36_0, a1', vau_ne, b1', c1', f13', if_pos z0, e20, upd_ne, e19, h9]
  · have hz : ¬ nI (stp K 59 (stp K 17 (stp K 17 s))).1 ≤ 0 := nI_nle (by omega) (by omega)
    refine ⟨F3, va_up (va_up A 10 (upd (A 10) (6 * sd + nb) x)) 11 (upd (A 11) (6 * sd + nb) y), B, x, y, ?_, c2, fun k q1 _ => fo k q1, f12, fun a q1 q2 q3 => by rw [vau_ne q3, vau_ne q2], ⟨by rw [vau_ne (by decide), vau_at], by rw [vau_at]⟩, fun _ => ⟨by rw [vau_ne (by decide), vau_ne (by decide)], rfl⟩, fun q => absurd q cz⟩
    unfold fX12_tellBook_b73
    simp -implicitDefEqProofs (disch := first | assumption | omega | decide | exact And.intro (by omega) (by omega)) only [mck, mg_0, mp_0, mr_1, mg_2, mp_2, mr_3, mg_4, mp_4, mr_5, mr_6, mr_7, mr_8, mr_9, mg_10, mp_10, mg_11, mp_11, mg_12, mp_12, mg_13, mp_13, mg_14, mp_14, mg_15, mp_15, mg_16, mp_16, mg_17, mp_17, mg_18, mp_18, mg_19, mp_19, mg_20, mp_20, mr_21, mr_22, mr_23, mr_24, mr_25, mr_26, mr_27, mr_28, mr_29, mr_30, mr_31, mr_32, mg_33, mp_33, mr_34, mr_35, mr_36, mr_37, mr_38, mg_39, mp_39, mr_40, mr_41, mr_42, mg_43, mp_43, mr_44, mr_45, mg_46, mp_46, mr_47, mr_48, mg_49, mp_49, mg_50, mp_50, mg_51, mp_51, mr_52, mr_53, mr_54, mg_55, mp_55, mr_56, mr_57, mg_58, mp_58, mg_59, mp_59, mg_60, mp_60, mr_61, mg_62, mp_62, mr_63, mr_64, mr_65, mr_66, mr_67, mr_68, ma_1, ms_1, ma_2, ms_2, ma_3, ms_3, ma_4, ms_4, ma_5, ms_5, ma_6, ms_6, ma_7, ms_7, ma_8, ms_8, ma_9, ms_9, ma_10, ms_10, ma_11, ms_11, ma_12, ms_12, ma_13, ms_13, ma_14, ms_14, ma_15, ms_15, ma_16, ms_16, ma_17, ms_17, ma_18, ms_18, ma_19, ms_19, ma_20, ms_20, ma_21, ms_21, ma_22, ms_22, ma_23, ms_23, ma_24, ms_24, ma_25, ms_25, ma_26, ms_26, ma_27, ms_27, ma_28, ms_28, ma_29, ms_29, ma_30, ms_30, ma_31, ms_31, ma_32, ms_32, ma_33, ms_33, ma_34, ms_34, ma_35, ms_35, ma_36, ms_36, ma_37, ms_37, ma_38, ms_38, ma_39, ms_39, ma_40, ms_40, ma_41, ms_41, ma_42, ms_42, ma_43, ms_43, if_true, if_false, Option.bind_some, cb_e, lt_e, nI_1, hs_nar2, nh4, upd_at, vau_at, ma_30_18, ms_30_18, ma_31_18, ms_31_18, ma_28_0, ms_28_0, ma_28_1, ms_28_1, ma_28_2, ms_28_2, ma_28_3, ms_28_3, ma_28_4, ms_28_4, ma_42_0, ms_42_0, ma_42_1, ms_42_1, ma_42_2, ms_42_2, ma_36_0, ms_36_0, a1', vau_ne, b1', c1', f13, if_neg hz]
end B89
