/-! ===== a fly is told: the class, the model ===== -/
/-- the slips of a fly told, its weight at token j -/
def slY (V PL : Nat → Nat) (w : Nat × Nat) (un : Bool) (h j : Nat) : Nat × Nat := slp (slp (slp w (decide (V j < 0 ∨ 99 < V j)) 5 (PL j)) un 4 (PL (j + 2))) (decide (V (j + 3) < 0 ∨ h < V (j + 3))) 5 (PL (j + 3))
section Y94
variable {d sd M : Nat} {K V : Nat → Nat} {NM : Nat → List Nat} {PL : Nat → Nat} {r : Nat → Nat}
theorem c_addFly {F A : Nat → Nat → Int32} {B : Nat → Nat → Int64} {nc q b : Nat} (hd : d = 7 ∨ d = 22) (h0 : F d 0 = nI nc) (hnc : nc ≤ 6) (h10 : F d 10 = nI q) (hq : q < 6) (hb : b < nc) (x y : Int32) : ∃ A', fX10_addFly d x (nI b) y (mkC F A B r) = some ((), mkC (va_up F d (upd (F d) 10 (nI (q + 1)))) A' B r) ∧ (A' (d + 8) = upd (A (d + 8)) q (nI b) ∧ A' (d + 9) = upd (A (d + 9)) b (A (d + 9) b + x) ∧ A' (d + 10) = upd (A (d + 10)) b (A (d + 10) b + x * y)) ∧ ∀ c, ¬ c = d + 8 → ¬ c = d + 9 → ¬ c = d + 10 → A' c = A c := by
  have kd : c_kd d = 10 := by rcases hd with h | h <;> subst h <;> rfl
  have kd8 : c_kd (d + 8) = 35 := by rcases hd with h | h <;> subst h <;> rfl
  have kd9 : c_kd (d + 9) = 35 := by rcases hd with h | h <;> subst h <;> rfl
  have kd10 : c_kd (d + 10) = 35 := by rcases hd with h | h <;> subst h <;> rfl
  have n6 : ¬ (6 : Int32) ≤ nI q := fun z => by
    have := (nI_leI (a := 6) (by decide) (by omega)).1 z
    omega
  have b0 : ¬ nI b < 0 := nI_nlt (b := 0) (by omega) (by omega)
  have bn : ¬ nI nc ≤ nI b := fun z => by
    have := (nI_leI (by omega) (by omega)).1 z
    omega
  have b6 : b < 6 := by omega
  unfold fX10_addFly
  simp -implicitDefEqProofs (disch := first | assumption | omega | decide | exact And.intro (by omega) (by omega)) only [cck_0, cr0_0, cr0_1, cr0_2, cr0_3, cg0_4, cp0_4, cg0_5, cp0_5, cck_1, cg1_0, cp1_0, cr1_1, cr1_2, cr1_3, cg1_4, cp1_4, cg1_5, cp1_5, cr1_6, cr1_7, cck_2, cr2_0, cr2_1, cr2_2, cck_3, cr3_0, cr3_1, cg3_2, cp3_2, cg3_3, cp3_3, cg3_4, cp3_4, cg3_5, cp3_5, cg3_6, cp3_6, cg3_7, cp3_7, cg3_8, cp3_8, cck_4, cg4_0, cp4_0, cg4_1, cp4_1, cr4_2, cr4_3, cr4_4, cr4_5, cck_5, cg5_0, cp5_0, cr5_1, cr5_2, cr5_3, cck_6, cg6_0, cp6_0, cg6_1, cp6_1, cck_7, cg7_0, cp7_0, cg7_1, cp7_1, cr7_2, cr7_3, cr7_4, cr7_5, cr7_6, cr7_7, cr7_8, cck_8, cr8_0, cr8_1, cck_9, cr9_0, cr9_1, cr9_2, cr9_3, cg9_4, cp9_4, cck_10, cg10_0, cp10_0, cr10_1, cr10_2, cr10_3, cr10_4, cg10_5, cp10_5, cr10_6, cr10_7, cr10_8, cg10_9, cp10_9, cg10_10, cp10_10, cr10_11, cr10_12, cr10_13, cr10_14, cck_11, cr11_0, cg11_1, cp11_1, cr11_2, cr11_3, cr11_4, cr11_5, cr11_6, cr11_7, cr11_8, cr11_9, cr11_10, cr11_11, cr11_12, cr11_13, cr11_14, ca_30, cs_30, ca_31, cs_31, ca_32, cs_32, ca_33, cs_33, ca_34, cs_34, ca_35, cs_35, ca_36, cs_36, ca_37, cs_37, ca_38, cs_38, ca_39, cs_39, ca_40, cs_40, ca_41, cs_41, ca_42, cs_42, car_20, car_21, car_22, cq11_3, cq11_4, cq3_1, cq0_0, cq0_1, if_true, if_false, Option.bind_some, cb_e, lt_e, nI_1, hs_nar2, nh4, upd_at, vau_at, ca_42_0, cs_42_0, h10, if_neg n6, if_neg b0, h0, if_neg bn, vau_ne]
  exact ⟨_, rfl, ⟨by rw [vau_ne (by omega), vau_ne (by omega), vau_at], by rw [vau_ne (by omega), vau_at], vau_at _ _ _⟩, fun c q1 q2 q3 => by rw [vau_ne q3, vau_ne q2, vau_ne q1]⟩
theorem c_fly {Fc Ac : Nat → Nat → Int32} {Bc : Nat → Nat → Int64} {w : Nat × Nat} {t nf nc h : Nat} {g : Nat → List Nat} (hd : d = 7 ∨ d = 22) (hr : r 2 = d) (hK : TkK M K V) (ht : t ≤ M) (hcp : CPo Fc PL 0 t) (ck : CTk Ac Bc M K V PL) (hnm : ∀ j, j ≤ M → K j = 16 → Bc 6 j = jN (cN 32 (NM j)) ∧ Nam (NM j)) (hw : SlC Fc w) (h8 : Fc 37 8 = nI nf) (hnf : nf < 6) (h0 : Fc d 0 = nI nc) (hnc : nc ≤ 6) (hg : ∀ i, i < nc → Bc (d + 1) i = jN (cN 32 (g i)) ∧ Nam (g i)) (h10 : w.1 = 0 → Fc d 10 = nI nf) (hh : ∀ b, fndN g (NM (t + 3)) nc 0 = some b → w.1 = 0 → Ac (d + 2) b = nI h ∧ h ≤ 9999) : ∃ F6 A6, fX3_tellFly 37 (mkC Fc Ac Bc r) = some ((), mkC F6 A6 Bc r) ∧ CPo F6 PL (stp K 59 (stp K 17 (stp K 16 (stp K 7 (stp K 17 (stp K 4 (0, t))))))).1 (stp K 59 (stp K 17 (stp K 16 (stp K 7 (stp K 17 (stp K 4 (0, t))))))).2 ∧ (∀ c, ¬ c = 37 → ¬ c = d → F6 c = Fc c) ∧ (∀ x, ¬ x = 10 → F6 d x = Fc d x) ∧ (F6 37 8 = nI (nf + 1) ∧ F6 37 7 = Fc 37 7) ∧ (∀ c, ¬ c = d + 8 → ¬ c = d + 9 → ¬ c = d + 10 → A6 c = Ac c) ∧ ((stp K 59 (stp K 17 (stp K 16 (stp K 7 (stp K 17 (stp K 4 (0, t))))))).1 = 0 → SlC F6 (slY V PL w (decide (fndN g (NM (t + 3)) nc 0 = none)) h (t + 1)) ∧ (¬ (slY V PL w (decide (fndN g (NM (t + 3)) nc 0 = none)) h (t + 1)).1 = 0 → F6 d = Fc d) ∧ ((slY V PL w (decide (fndN g (NM (t + 3)) nc 0 = none)) h (t + 1)).1 = 0 → ∃ b, fndN g (NM (t + 3)) nc 0 = some b ∧ F6 d 10 = nI (nf + 1) ∧ (A6 (d + 8) = upd (Ac (d + 8)) nf (nI b) ∧ A6 (d + 9) = upd (Ac (d + 9)) b (Ac (d + 9) b + nI (V (t + 1))) ∧ A6 (d + 10) = upd (Ac (d + 10)) b (Ac (d + 10) b + nI (V (t + 1)) * nI (V (t + 4)))))) := by
  have hM := hK.1
  have n6 : ¬ nI nf = (6 : Int32) := fun q => by
    have := (nI_eq (b := 6) (by omega) (by decide)).1 q
    omega
  have d37 : ¬ d = 37 := by omega
  have kd : c_kd d = 10 := by rcases hd with h | h <;> subst h <;> rfl
  have kd2 : c_kd (d + 2) = 35 := by rcases hd with h | h <;> subst h <;> rfl
  generalize hF0 : va_up Fc 37 (upd (Fc 37) 8 (nI (nf + 1))) = F0
  have e0 : ∀ c, ¬ c = 37 → F0 c = Fc c := fun c hc => by rw [← hF0, vau_ne hc]
  have e37 : ∀ k, ¬ k = 8 → F0 37 k = Fc 37 k := fun k hk => by rw [← hF0, vau_at, upd_ne hk]
  have e7 : F0 37 8 = nI (nf + 1) := by rw [← hF0, vau_at, upd_at]
  have hcp0 : CPo F0 PL 0 t := by
    unfold CPo at *
    rw [e37 2 (by decide), e37 3 (by decide), e37 4 (by decide)]
    exact hcp
  obtain ⟨⟨l1, l2, l3⟩, l4⟩ := stp_ok hK (k := 4) (s := (0, t)) (by decide) ht (Nat.zero_le _)
  obtain ⟨F1, x1, a1, a2, a3, a4, a5⟩ := c_stp (Bc := Bc) (r := r) hK (k := 4) (s := (0, t)) ht hcp0 ck (by decide) (by decide)
  generalize hs1 : stp K 4 (0, t) = s1 at *
  obtain ⟨⟨l5, l6, l7⟩, l8⟩ := stp_ok hK (k := 17) (s := s1) (by decide) l2 l3
  obtain ⟨F2, x2, b1, b2, b3, b4, b5⟩ := c_stp (Bc := Bc) (r := r) hK (k := 17) l2 a2 ck (by decide) (by decide)
  generalize hs2 : stp K 17 s1 = s2 at *
  obtain ⟨⟨l9, l10, l11⟩, l12⟩ := stp_ok hK (k := 7) (s := s2) (by decide) l6 l7
  obtain ⟨F3, x3, c1, c2, c3, c4, c5⟩ := c_stp (Bc := Bc) (r := r) hK (k := 7) l6 b2 ck (by decide) (by decide)
  generalize hs3 : stp K 7 s2 = s3 at *
  obtain ⟨⟨l13, l14, l15⟩, l16⟩ := stp_ok hK (k := 16) (s := s3) (by decide) l10 l11
  obtain ⟨F4, x4, f1, f2, f3, f4, f5⟩ := c_stp (Bc := Bc) (r := r) hK (k := 16) l10 c2 ck (by decide) (by decide)
  generalize hs4 : stp K 16 s3 = s4 at *
  obtain ⟨⟨l17, l18, l19⟩, l20⟩ := stp_ok hK (k := 17) (s := s4) (by decide) l14 l15
  obtain ⟨F5, x5, g1, g2, g3, g4, g5⟩ := c_stp (Bc := Bc) (r := r) hK (k := 17) l14 f2 ck (by decide) (by decide)
  generalize hs5 : stp K 17 s4 = s5 at *
  obtain ⟨⟨l21, l22, l23⟩, l24⟩ := stp_ok hK (k := 59) (s := s5) (by decide) l18 l19
  obtain ⟨F6, x6, h1, h2, h3, h4, h5⟩ := c_stp (Bc := Bc) (r := r) hK (k := 59) l18 g2 ck (by decide) (by decide)
  generalize hs6 : stp K 59 s5 = s6 at *
  have a1' : fX3_take 37 4 (mkC F0 Ac Bc r) = some (x1, mkC F1 Ac Bc r) := a1
  have b1' : fX3_take 37 17 (mkC F1 Ac Bc r) = some (x2, mkC F2 Ac Bc r) := b1
  have c1' : fX3_take 37 7 (mkC F2 Ac Bc r) = some (x3, mkC F3 Ac Bc r) := c1
  have f1' : fX3_take 37 16 (mkC F3 Ac Bc r) = some (x4, mkC F4 Ac Bc r) := f1
  have g1' : fX3_take 37 17 (mkC F4 Ac Bc r) = some (x5, mkC F5 Ac Bc r) := g1
  have h1' : fX3_take 37 59 (mkC F5 Ac Bc r) = some (x6, mkC F6 Ac Bc r) := h1
  have fo : ∀ c, ¬ c = 37 → F6 c = Fc c := fun c hc => by rw [h3 c hc, g3 c hc, f3 c hc, c3 c hc, b3 c hc, a3 c hc, e0 c hc]
  have fk : ∀ k, ¬ k = 2 → ¬ k = 3 → ¬ k = 4 → F6 37 k = F0 37 k := fun k q1 q2 q3 => by rw [h4 k q1 q2 q3, g4 k q1 q2 q3, f4 k q1 q2 q3, c4 k q1 q2 q3, b4 k q1 q2 q3, a4 k q1 q2 q3]
  have k8 : F6 37 8 = nI (nf + 1) := by rw [fk 8 (by decide) (by decide) (by decide)]; exact e7
  have k7 : F6 37 7 = Fc 37 7 := by rw [fk 7 (by decide) (by decide) (by decide), e37 7 (by decide)]
  have sc6 : SlC F6 w := SlC.eq (F := F0) ⟨hw.1, by rw [e37 5 (by decide)]; exact hw.2.1, fun q => by rw [e37 6 (by decide)]; exact hw.2.2.1 q, fun q => by rw [e37 6 (by decide)]; exact hw.2.2.2 q⟩ fk
  have f63 := h2.1
  by_cases cz : s6.1 = 0
  · obtain ⟨z1, z2, z3, z4⟩ := l24 cz
    obtain ⟨z5, z6, z7, z8⟩ := l20 z1
    obtain ⟨z9, z10, z11, z12⟩ := l16 z5
    obtain ⟨z13, z14, z15, z16⟩ := l12 z9
    obtain ⟨z17, z18, z19, z20⟩ := l8 z13
    obtain ⟨z21, z22, z23, z24⟩ := l4 z17
    have t1 : s1.2 = t + 1 := z22
    have t2 : s2.2 = t + 2 := by rw [z18, t1]
    have t3 : s3.2 = t + 3 := by rw [z14, t2]
    have t4 : s4.2 = t + 4 := by rw [z10, t3]
    have y2 : x2 = nI (t + 1) := by rw [b5 z17, t1]
    have y4 : x4 = nI (t + 3) := by rw [f5 z9, t3]
    have y5 : x5 = nI (t + 4) := by rw [g5 z5, t4]
    subst y2 y4 y5
    rw [t1] at z19 l2
    rw [t3] at z11 l10
    rw [t4] at z7 l14
    have f63' : F6 37 3 = 0 := by rw [f63, cz]; rfl
    obtain ⟨v1, v2⟩ := hnm _ l10 z11
    have cv1 := ck _ l2
    have cv3 := ck _ l10
    have cv4 := ck _ l14
    have u1 := (hK.2.1 _ l2).2 z19
    have u4 := (hK.2.1 _ l14).2 z7
    obtain ⟨F7, i1, i2, i3, i4⟩ := c_chk (r := r) (lo := 0) (hi := 99) sc6 (j := t + 1) (by omega) cv1.2.1 (cv1.2.2 z19) u1 (by decide) (by decide)
    have i1' : fX3_checkInt 37 (nI (t + 1)) 0 99 (mkC F6 Ac Bc r) = some ((), mkC F7 Ac Bc r) := i1
    obtain ⟨F8, j1, j2, j3, j4⟩ := c_knw (Bc := Bc) (r := r) (PL := PL) (j := t + 3) (g := g) (nc := nc) hd hr i2 (by omega) cv3.2.1 v1 v2 (by rw [i3 d d37, fo d d37]; exact h0) hnc hg
    have hI1 : ∀ Fx : Nat → Nat → Int32, fX3_intAt 37 (nI (t + 1)) (mkC Fx Ac Bc r) = some (nI (V (t + 1)), mkC Fx Ac Bc r) := fun Fx => c_intAt (by omega) (cv1.2.2 z19) u1
    have hI4 : ∀ Fx : Nat → Nat → Int32, fX3_intAt 37 (nI (t + 4)) (mkC Fx Ac Bc r) = some (nI (V (t + 4)), mkC Fx Ac Bc r) := fun Fx => c_intAt (by omega) (cv4.2.2 z7) u4
    have hrx : ∀ Fx : Nat → Nat → Int32, gR (mkC Fx Ac Bc r) 3 37 1 = some d := fun Fx => by rw [cr3_1 rfl, hr]
    have fo8 : ∀ c, ¬ c = 37 → F8 c = Fc c := fun c hc => by rw [j3 c hc, i3 c hc, fo c hc]
    have fk8 : ∀ k, ¬ k = 5 → ¬ k = 6 → F8 37 k = F6 37 k := fun k q1 q2 => by rw [j4 k q1 q2, i4 k q1 q2]
    cases hq : fndN g (NM (t + 3)) nc 0 with
    | none =>
      rw [hq] at j1 j2
      have j1' : fX3_knownBook 37 (nI (t + 3)) (mkC F7 Ac Bc r) = some (-1, mkC F8 Ac Bc r) := j1
      have w2n : ¬ (slp (slp w (decide (V (t + 1) < 0 ∨ 99 < V (t + 1))) 5 (PL (t + 1))) (decide ((none : Option Nat) = none)) 4 (PL (t + 3))).1 = 0 := fun q => by
        have := (slp_0 (by decide) q).2
        exact absurd this (by decide)
      have e3 : slY V PL w (decide ((none : Option Nat) = none)) h (t + 1) = slp (slp w (decide (V (t + 1) < 0 ∨ 99 < V (t + 1))) 5 (PL (t + 1))) (decide ((none : Option Nat) = none)) 4 (PL (t + 3)) := slp_n0 w2n
      rw [e3]
      have hz : ¬ F8 37 5 = 0 := by rw [j2.2.1]; exact nI_ne0 (by omega) (by have := j2.1; omega)
      refine ⟨F8, Ac, ?_, ?_, fun c q1 _ => fo8 c q1, fun x _ => by rw [fo8 d d37], ⟨by rw [fk8 8 (by decide) (by decide)]; exact k8, by rw [fk8 7 (by decide) (by decide)]; exact k7⟩, fun _ _ _ _ => rfl, fun _ => ⟨j2, fun _ => fo8 d d37, fun q => absurd q w2n⟩⟩
      · unfold fX3_tellFly fX3_tellFly_b111
        simp -implicitDefEqProofs (disch := first | assumption | omega | decide | exact And.intro (by omega) (by omega)) only [cck_0, cr0_0, cr0_1, cr0_2, cr0_3, cg0_4, cp0_4, cg0_5, cp0_5, cck_1, cg1_0, cp1_0, cr1_1, cr1_2, cr1_3, cg1_4, cp1_4, cg1_5, cp1_5, cr1_6, cr1_7, cck_2, cr2_0, cr2_1, cr2_2, cck_3, cr3_0, cr3_1, cg3_2, cp3_2, cg3_3, cp3_3, cg3_4, cp3_4, cg3_5, cp3_5, cg3_6, cp3_6, cg3_7, cp3_7, cg3_8, cp3_8, cck_4, cg4_0, cp4_0, cg4_1, cp4_1, cr4_2, cr4_3, cr4_4, cr4_5, cck_5, cg5_0, cp5_0, cr5_1, cr5_2, cr5_3, cck_6, cg6_0, cp6_0, cg6_1, cp6_1, cck_7, cg7_0, cp7_0, cg7_1, cp7_1, cr7_2, cr7_3, cr7_4, cr7_5, cr7_6, cr7_7, cr7_8, cck_8, cr8_0, cr8_1, cck_9, cr9_0, cr9_1, cr9_2, cr9_3, cg9_4, cp9_4, cck_10, cg10_0, cp10_0, cr10_1, cr10_2, cr10_3, cr10_4, cg10_5, cp10_5, cr10_6, cr10_7, cr10_8, cg10_9, cp10_9, cg10_10, cp10_10, cr10_11, cr10_12, cr10_13, cr10_14, cck_11, cr11_0, cg11_1, cp11_1, cr11_2, cr11_3, cr11_4, cr11_5, cr11_6, cr11_7, cr11_8, cr11_9, cr11_10, cr11_11, cr11_12, cr11_13, cr11_14, ca_30, cs_30, ca_31, cs_31, ca_32, cs_32, ca_33, cs_33, ca_34, cs_34, ca_35, cs_35, ca_36, cs_36, ca_37, cs_37, ca_38, cs_38, ca_39, cs_39, ca_40, cs_40, ca_41, cs_41, ca_42, cs_42, car_20, car_21, car_22, cq11_3, cq11_4, cq3_1, cq0_0, cq0_1, if_true, if_false, Option.bind_some, cb_e, lt_e, nI_1, hs_nar2, nh4, upd_at, vau_at, ca_42_0, cs_42_0, h8, if_neg n6, hF0, a1', b1', c1', f1', g1', h1', f63', i1', j1', if_neg hz]
      · unfold CPo at h2 ⊢
        rw [fk8 2 (by decide) (by decide), fk8 3 (by decide) (by decide), fk8 4 (by decide) (by decide)]
        exact h2
    | some b =>
      rw [hq] at j1 j2
      have j1' : fX3_knownBook 37 (nI (t + 3)) (mkC F7 Ac Bc r) = some (nI b, mkC F8 Ac Bc r) := j1
      have ib := fndN_lt _ _ _ hq
      have m1 : ¬ nI b = (-1 : Int32) := nI_ne1 (by omega)
      have b6 : b < 6 := by omega
      obtain ⟨F9, o1, o2, o3, o4⟩ := c_chk2 (Ac := Ac) (PL := PL) (r := r) (lo := 0) (h := h) (hi := Ac (d + 2) b) j2 (j := t + 4) (by omega) cv4.2.1 (cv4.2.2 z7) u4 (by decide) (fun q => hh b hq (slp_0 (by decide) (slp_0 (by decide) q).1).1)
      have o1' : fX3_checkInt 37 (nI (t + 4)) 0 (Ac (d + 2) b) (mkC F8 Ac Bc r) = some ((), mkC F9 Ac Bc r) := o1
      have fo9 : ∀ c, ¬ c = 37 → F9 c = Fc c := fun c hc => by rw [o3 c hc, fo8 c hc]
      have fk9 : ∀ k, ¬ k = 5 → ¬ k = 6 → F9 37 k = F6 37 k := fun k q1 q2 => by rw [o4 k q1 q2, fk8 k q1 q2]
      have o2' : SlC F9 (slY V PL w (decide (some b = none)) h (t + 1)) := o2
      generalize hw3 : slY V PL w (decide (some b = none)) h (t + 1) = w3 at *
      have f5 := o2'.2.1
      by_cases c3 : w3.1 = 0
      · have f5' : F9 37 5 = 0 := by rw [f5, c3]; rfl
        have w0 : w.1 = 0 := by
          rw [← hw3] at c3
          unfold slY at c3
          exact (slp_0 (by decide) (slp_0 (by decide) (slp_0 (by decide) c3).1).1).1
        obtain ⟨A', p1, p2, p3⟩ := c_addFly (A := Ac) (B := Bc) (r := r) (F := F9) (nc := nc) (q := nf) (b := b) hd (by rw [fo9 d d37]; exact h0) hnc (by rw [fo9 d d37]; exact h10 w0) hnf (by omega) (nI (V (t + 1))) (nI (V (t + 4)))
        refine ⟨va_up F9 d (upd (F9 d) 10 (nI (nf + 1))), A', ?_, ?_, fun c q1 q2 => by rw [vau_ne q2]; exact fo9 c q1, fun x hx => by rw [vau_at, upd_ne hx, fo9 d d37], ⟨by rw [vau_ne (fun q => d37 q.symm), fk9 8 (by decide) (by decide)]; exact k8, by rw [vau_ne (fun q => d37 q.symm), fk9 7 (by decide) (by decide)]; exact k7⟩, p3, fun _ => ⟨⟨o2'.1, by rw [vau_ne (fun q => d37 q.symm)]; exact o2'.2.1, fun q => by rw [vau_ne (fun q => d37 q.symm)]; exact o2'.2.2.1 q, fun q => by rw [vau_ne (fun q => d37 q.symm)]; exact o2'.2.2.2 q⟩, fun q => absurd c3 q, fun _ => ⟨b, rfl, by rw [vau_at, upd_at], p2⟩⟩⟩
        · unfold fX3_tellFly fX3_tellFly_b111
          simp -implicitDefEqProofs (disch := first | assumption | omega | decide | exact And.intro (by omega) (by omega)) only [cck_0, cr0_0, cr0_1, cr0_2, cr0_3, cg0_4, cp0_4, cg0_5, cp0_5, cck_1, cg1_0, cp1_0, cr1_1, cr1_2, cr1_3, cg1_4, cp1_4, cg1_5, cp1_5, cr1_6, cr1_7, cck_2, cr2_0, cr2_1, cr2_2, cck_3, cr3_0, cr3_1, cg3_2, cp3_2, cg3_3, cp3_3, cg3_4, cp3_4, cg3_5, cp3_5, cg3_6, cp3_6, cg3_7, cp3_7, cg3_8, cp3_8, cck_4, cg4_0, cp4_0, cg4_1, cp4_1, cr4_2, cr4_3, cr4_4, cr4_5, cck_5, cg5_0, cp5_0, cr5_1, cr5_2, cr5_3, cck_6, cg6_0, cp6_0, cg6_1, cp6_1, cck_7, cg7_0, cp7_0, cg7_1, cp7_1, cr7_2, cr7_3, cr7_4, cr7_5, cr7_6, cr7_7, cr7_8, cck_8, cr8_0, cr8_1, cck_9, cr9_0, cr9_1, cr9_2, cr9_3, cg9_4, cp9_4, cck_10, cg10_0, cp10_0, cr10_1, cr10_2, cr10_3, cr10_4, cg10_5, cp10_5, cr10_6, cr10_7, cr10_8, cg10_9, cp10_9, cg10_10, cp10_10, cr10_11, cr10_12, cr10_13, cr10_14, cck_11, cr11_0, cg11_1, cp11_1, cr11_2, cr11_3, cr11_4, cr11_5, cr11_6, cr11_7, cr11_8, cr11_9, cr11_10, cr11_11, cr11_12, cr11_13, cr11_14, ca_30, cs_30, ca_31, cs_31, ca_32, cs_32, ca_33, cs_33, ca_34, cs_34, ca_35, cs_35, ca_36, cs_36, ca_37, cs_37, ca_38, cs_38, ca_39, cs_39, ca_40, cs_40, ca_41, cs_41, ca_42, cs_42, car_20, car_21, car_22, cq11_3, cq11_4, cq3_1, cq0_0, cq0_1, if_true, if_false, Option.bind_some, cb_e, lt_e, nI_1, hs_nar2, nh4, upd_at, vau_at, ca_42_0, cs_42_0, h8, if_neg n6, hF0, a1', b1', c1', f1', g1', h1', f63', i1', j1', if_neg m1, hrx, o1', f5', hI1, hI4, p1]
        · unfold CPo at h2 ⊢
          rw [vau_ne (fun q => d37 q.symm), fk9 2 (by decide) (by decide), fk9 3 (by decide) (by decide), fk9 4 (by decide) (by decide)]
          exact h2
      · have hz : ¬ F9 37 5 = 0 := by rw [f5]; exact nI_ne0 (by omega) (by have := o2'.1; omega)
        refine ⟨F9, Ac, ?_, ?_, fun c q1 _ => fo9 c q1, fun x _ => by rw [fo9 d d37], ⟨by rw [fk9 8 (by decide) (by decide)]; exact k8, by rw [fk9 7 (by decide) (by decide)]; exact k7⟩, fun _ _ _ _ => rfl, fun _ => ⟨o2', fun _ => fo9 d d37, fun q => absurd q c3⟩⟩
        · unfold fX3_tellFly fX3_tellFly_b111
          simp -implicitDefEqProofs (disch := first | assumption | omega | decide | exact And.intro (by omega) (by omega)) only [cck_0, cr0_0, cr0_1, cr0_2, cr0_3, cg0_4, cp0_4, cg0_5, cp0_5, cck_1, cg1_0, cp1_0, cr1_1, cr1_2, cr1_3, cg1_4, cp1_4, cg1_5, cp1_5, cr1_6, cr1_7, cck_2, cr2_0, cr2_1, cr2_2, cck_3, cr3_0, cr3_1, cg3_2, cp3_2, cg3_3, cp3_3, cg3_4, cp3_4, cg3_5, cp3_5, cg3_6, cp3_6, cg3_7, cp3_7, cg3_8, cp3_8, cck_4, cg4_0, cp4_0, cg4_1, cp4_1, cr4_2, cr4_3, cr4_4, cr4_5, cck_5, cg5_0, cp5_0, cr5_1, cr5_2, cr5_3, cck_6, cg6_0, cp6_0, cg6_1, cp6_1, cck_7, cg7_0, cp7_0, cg7_1, cp7_1, cr7_2, cr7_3, cr7_4, cr7_5, cr7_6, cr7_7, cr7_8, cck_8, cr8_0, cr8_1, cck_9, cr9_0, cr9_1, cr9_2, cr9_3, cg9_4, cp9_4, cck_10, cg10_0, cp10_0, cr10_1, cr10_2, cr10_3, cr10_4, cg10_5, cp10_5, cr10_6, cr10_7, cr10_8, cg10_9, cp10_9, cg10_10, cp10_10, cr10_11, cr10_12, cr10_13, cr10_14, cck_11, cr11_0, cg11_1, cp11_1, cr11_2, cr11_3, cr11_4, cr11_5, cr11_6, cr11_7, cr11_8, cr11_9, cr11_10, cr11_11, cr11_12, cr11_13, cr11_14, ca_30, cs_30, ca_31, cs_31, ca_32, cs_32, ca_33, cs_33, ca_34, cs_34, ca_35, cs_35, ca_36, cs_36, ca_37, cs_37, ca_38, cs_38, ca_39, cs_39, ca_40, cs_40, ca_41, cs_41, ca_42, cs_42, car_20, car_21, car_22, cq11_3, cq11_4, cq3_1, cq0_0, cq0_1, if_true, if_false, Option.bind_some, cb_e, lt_e, nI_1, hs_nar2, nh4, upd_at, vau_at, ca_42_0, cs_42_0, h8, if_neg n6, hF0, a1', b1', c1', f1', g1', h1', f63', i1', j1', if_neg m1, hrx, o1', if_neg hz]
        · unfold CPo at h2 ⊢
          rw [fk9 2 (by decide) (by decide), fk9 3 (by decide) (by decide), fk9 4 (by decide) (by decide)]
          exact h2
  · have hz : ¬ nI s6.1 = 0 := nI_ne0 (by omega) (by omega)
    refine ⟨F6, Ac, ?_, h2, fun c q1 _ => fo c q1, fun x _ => by rw [fo d d37], ⟨k8, k7⟩, fun _ _ _ _ => rfl, fun q => absurd q cz⟩
    unfold fX3_tellFly
    simp -implicitDefEqProofs (disch := first | assumption | omega | decide | exact And.intro (by omega) (by omega)) only [cck_0, cr0_0, cr0_1, cr0_2, cr0_3, cg0_4, cp0_4, cg0_5, cp0_5, cck_1, cg1_0, cp1_0, cr1_1, cr1_2, cr1_3, cg1_4, cp1_4, cg1_5, cp1_5, cr1_6, cr1_7, cck_2, cr2_0, cr2_1, cr2_2, cck_3, cr3_0, cr3_1, cg3_2, cp3_2, cg3_3, cp3_3, cg3_4, cp3_4, cg3_5, cp3_5, cg3_6, cp3_6, cg3_7, cp3_7, cg3_8, cp3_8, cck_4, cg4_0, cp4_0, cg4_1, cp4_1, cr4_2, cr4_3, cr4_4, cr4_5, cck_5, cg5_0, cp5_0, cr5_1, cr5_2, cr5_3, cck_6, cg6_0, cp6_0, cg6_1, cp6_1, cck_7, cg7_0, cp7_0, cg7_1, cp7_1, cr7_2, cr7_3, cr7_4, cr7_5, cr7_6, cr7_7, cr7_8, cck_8, cr8_0, cr8_1, cck_9, cr9_0, cr9_1, cr9_2, cr9_3, cg9_4, cp9_4, cck_10, cg10_0, cp10_0, cr10_1, cr10_2, cr10_3, cr10_4, cg10_5, cp10_5, cr10_6, cr10_7, cr10_8, cg10_9, cp10_9, cg10_10, cp10_10, cr10_11, cr10_12, cr10_13, cr10_14, cck_11, cr11_0, cg11_1, cp11_1, cr11_2, cr11_3, cr11_4, cr11_5, cr11_6, cr11_7, cr11_8, cr11_9, cr11_10, cr11_11, cr11_12, cr11_13, cr11_14, ca_30, cs_30, ca_31, cs_31, ca_32, cs_32, ca_33, cs_33, ca_34, cs_34, ca_35, cs_35, ca_36, cs_36, ca_37, cs_37, ca_38, cs_38, ca_39, cs_39, ca_40, cs_40, ca_41, cs_41, ca_42, cs_42, car_20, car_21, car_22, cq11_3, cq11_4, cq3_1, cq0_0, cq0_1, if_true, if_false, Option.bind_some, cb_e, lt_e, nI_1, hs_nar2, nh4, upd_at, vau_at, ca_42_0, cs_42_0, h8, if_neg n6, hF0, a1', b1', c1', f1', g1', h1', f63, if_neg hz]
theorem m_fly {F : Nat → Int32} {A : Nat → Nat → Int32} {B : Nat → Nat → Int64} {w : Nat × Nat} {j nb nf h : Nat} {g : Nat → List Nat} (hK : TkK M K V) (hsd : sd ≤ 1) (hj : j ≤ M) (hp : MPo F PL 0 j) (hk : MTk A M K V PL) (hnm : ∀ j, j ≤ M → K j = 16 → B 6 j = jN (cN 27 (NM j)) ∧ Nam (NM j)) (hw : SlM F w) (hlt : ¬ w.1 = 0 → w.2 < PL j) (hmono : ∀ a b, a < b → b ≤ M → PL a < PL b) (hpl : ∀ a, a ≤ M → PL a ≤ 2000) (h19 : F 19 = nI sd) (h20 : F 20 = nI nb) (hnb : nb ≤ 6) (h13 : A 13 sd = nI nf) (hnf : nf < 6) (hg : ∀ i, i < nb → B 8 i = jN (cN 27 (g i)) ∧ Nam (g i)) (hh : ∀ b, fndN g (NM (j + 2)) nb 0 = some b → w.1 = 0 → A 10 (6 * sd + b) = nI h ∧ h ≤ 9999) : ∃ F' A' x y z, fX12_tellFly 0 (mkM F A B) = some ((), mkM F' A' B) ∧ MPo F' PL (stp K 59 (stp K 17 (stp K 16 (stp K 7 (stp K 17 (0, j)))))).1 (stp K 59 (stp K 17 (stp K 16 (stp K 7 (stp K 17 (0, j)))))).2 ∧ (∀ k, ¬ (11 ≤ k ∧ k ≤ 16) → F' k = F k) ∧ F' 12 = F 12 ∧ (∀ a, ¬ a = 13 → ¬ a = 14 → ¬ a = 15 → ¬ a = 16 → A' a = A a) ∧ (A' 14 = upd (A 14) (6 * sd + nf) x ∧ A' 15 = upd (A 15) (6 * sd + nf) y ∧ A' 16 = upd (A 16) (6 * sd + nf) z) ∧ (¬ (stp K 59 (stp K 17 (stp K 16 (stp K 7 (stp K 17 (0, j)))))).1 = 0 → A' 13 = A 13) ∧ ((stp K 59 (stp K 17 (stp K 16 (stp K 7 (stp K 17 (0, j)))))).1 = 0 → A' 13 = upd (A 13) sd (nI (nf + 1)) ∧ SlM F' (slY V PL w (decide (fndN g (NM (j + 2)) nb 0 = none)) h j) ∧ ((slY V PL w (decide (fndN g (NM (j + 2)) nb 0 = none)) h j).1 = 0 → x = nI (V j) ∧ y = rF (-1) (fndN g (NM (j + 2)) nb 0) ∧ z = nI (V (j + 3)))) := by
  have hM := hK.1
  have sd2 : sd < 2 := by omega
  have k12 : 6 * sd + nf < 12 := by omega
  obtain ⟨⟨l1, l2, l3⟩, l4⟩ := stp_ok hK (k := 17) (s := (0, j)) (by decide) hj (Nat.zero_le _)
  obtain ⟨F1, x, a1, a2, a3, a4, a5⟩ := m_bnd' (B := B) (lo := 0) (hi := 99) (w := w) hK (s := (0, j)) hj hp hk (fun _ => ⟨hw, hlt⟩) (hpl _ hj) (by decide) (by decide)
  generalize hs1 : stp K 17 (0, j) = s1 at *
  have a1' : fX12_bounded 0 0 99 (mkM F A B) = some (x, mkM F1 A B) := a1
  generalize hA1 : va_up A 14 (upd (A 14) (6 * sd + nf) x) = A1
  have o1 : ∀ a, ¬ a = 14 → A1 a = A a := fun a ha => by rw [← hA1, vau_ne ha]
  have p1 : A1 14 = upd (A 14) (6 * sd + nf) x := by rw [← hA1, vau_at]
  have mk1 : MTk A1 M K V PL := by
    unfold MTk at *
    rw [o1 3 (by decide), o1 4 (by decide), o1 5 (by decide)]
    exact hk
  obtain ⟨⟨l5, l6, l7⟩, l8⟩ := stp_ok hK (k := 7) (s := s1) (by decide) l2 l3
  obtain ⟨F2, b1, b2, b3⟩ := m_stp (B := B) hK (k := 7) l2 a2 mk1 rfl (by decide)
  generalize hs2 : stp K 7 s1 = s2 at *
  have b1' : fX12_must 0 27 (mkM F1 A1 B) = some ((), mkM F2 A1 B) := b1
  generalize hw1 : slp w (decide (V j < 0 ∨ 99 < V j)) 5 (PL j) = w1 at *
  have e2 : s2.1 = 0 → s1.1 = 0 ∧ s1.2 = j + 1 ∧ s2.2 = j + 2 := fun q => by
    obtain ⟨z1, z2, _⟩ := l8 q
    obtain ⟨_, z4, _⟩ := l4 z1
    exact ⟨z1, z4, by rw [z2, z4]⟩
  have w1lt : ∀ q, j < q → q ≤ M → ¬ w1.1 = 0 → w1.2 < PL q := fun q hq hqm => by
    rw [← hw1]
    exact slp_lt (p0 := PL j) hlt (Nat.le_of_lt (hmono _ _ hq hqm)) (hmono _ _ hq hqm)
  have h20' : F2 20 = nI nb := by rw [b3 20 (by decide) (by decide) (by decide), a3 20 (by decide)]; exact h20
  obtain ⟨⟨l9, l10, l11⟩, l12⟩ := stp_ok hK (k := 16) (s := s2) (by decide) l6 l7
  obtain ⟨F3, y, c1, c2, c3, c4, c5, c6⟩ := m_knw (NM := NM) (A := A1) (B := B) (w := w1) (g := g) hK l6 b2 mk1 hnm (fun q => ⟨(a5 (e2 q).1).2.eq b3, w1lt _ (by have := (e2 q).2.2; omega) l6⟩) (hpl _ l6) h20' hnb hg
  generalize hs3 : stp K 16 s2 = s3 at *
  generalize hA2 : va_up A1 15 (upd (A1 15) (6 * sd + nf) y) = A2
  have o2 : ∀ a, ¬ a = 15 → A2 a = A1 a := fun a ha => by rw [← hA2, vau_ne ha]
  have p2 : A2 15 = upd (A 15) (6 * sd + nf) y := by rw [← hA2, vau_at, o1 15 (by decide)]
  have mk2 : MTk A2 M K V PL := by
    unfold MTk at *
    rw [o2 3 (by decide), o2 4 (by decide), o2 5 (by decide)]
    exact mk1
  have e3 : s3.1 = 0 → s2.1 = 0 ∧ s3.2 = j + 3 := fun q => by
    obtain ⟨z1, z2, _⟩ := l12 q
    exact ⟨z1, by rw [z2, (e2 z1).2.2]⟩
  have f319 : F3 19 = nI sd := by rw [c3 19 (by decide), b3 19 (by decide) (by decide) (by decide), a3 19 (by decide)]; exact h19
  have hix : ∃ hi : Int32, fX12_tellFly 0 (mkM F A B) = fX12_tellFly_b80 0 16 (nI (6 * sd + nf)) 0 0 hi (mkM F3 A2 B) ∧ (s3.1 = 0 → (slp w1 (decide (fndN g (NM (j + 2)) nb 0 = none)) 4 (PL (j + 2))).1 = 0 → hi = nI h ∧ h ≤ 9999) := by
    have neg : y = -1 → fX12_tellFly 0 (mkM F A B) = fX12_tellFly_b80 0 16 (nI (6 * sd + nf)) 0 0 9999 (mkM F3 A2 B) := fun ey => by
      have n0 : ¬ (0 : Int32) ≤ -1 := by decide
      rw [ey] at c1 hA2
      unfold fX12_tellFly
      simp -implicitDefEqProofs (disch := first | assumption | omega | decide | exact And.intro (by omega) (by omega)) only [mck, mg_0, mp_0, mr_1, mg_2, mp_2, mr_3, mg_4, mp_4, mr_5, mr_6, mr_7, mr_8, mr_9, mg_10, mp_10, mg_11, mp_11, mg_12, mp_12, mg_13, mp_13, mg_14, mp_14, mg_15, mp_15, mg_16, mp_16, mg_17, mp_17, mg_18, mp_18, mg_19, mp_19, mg_20, mp_20, mr_21, mr_22, mr_23, mr_24, mr_25, mr_26, mr_27, mr_28, mr_29, mr_30, mr_31, mr_32, mg_33, mp_33, mr_34, mr_35, mr_36, mr_37, mr_38, mg_39, mp_39, mr_40, mr_41, mr_42, mg_43, mp_43, mr_44, mr_45, mg_46, mp_46, mr_47, mr_48, mg_49, mp_49, mg_50, mp_50, mg_51, mp_51, mr_52, mr_53, mr_54, mg_55, mp_55, mr_56, mr_57, mg_58, mp_58, mg_59, mp_59, mg_60, mp_60, mr_61, mg_62, mp_62, mr_63, mr_64, mr_65, mr_66, mr_67, mr_68, ma_1, ms_1, ma_2, ms_2, ma_3, ms_3, ma_4, ms_4, ma_5, ms_5, ma_6, ms_6, ma_7, ms_7, ma_8, ms_8, ma_9, ms_9, ma_10, ms_10, ma_11, ms_11, ma_12, ms_12, ma_13, ms_13, ma_14, ms_14, ma_15, ms_15, ma_16, ms_16, ma_17, ms_17, ma_18, ms_18, ma_19, ms_19, ma_20, ms_20, ma_21, ms_21, ma_22, ms_22, ma_23, ms_23, ma_24, ms_24, ma_25, ms_25, ma_26, ms_26, ma_27, ms_27, ma_28, ms_28, ma_29, ms_29, ma_30, ms_30, ma_31, ms_31, ma_32, ms_32, ma_33, ms_33, ma_34, ms_34, ma_35, ms_35, ma_36, ms_36, ma_37, ms_37, ma_38, ms_38, ma_39, ms_39, ma_40, ms_40, ma_41, ms_41, ma_42, ms_42, ma_43, ms_43, if_true, if_false, Option.bind_some, cb_e, lt_e, nI_1, hs_nar2, nh4, upd_at, vau_at, ma_30_18, ms_30_18, ma_31_18, ms_31_18, ma_28_0, ms_28_0, ma_28_1, ms_28_1, ma_28_2, ms_28_2, ma_28_3, ms_28_3, ma_28_4, ms_28_4, ma_42_0, ms_42_0, ma_42_1, ms_42_1, ma_42_2, ms_42_2, ma_36_0, ms_36_0, h19, h13, six_nI, a1', hA1, b1', c1, hA2, if_neg n0]
    by_cases c : s3.1 = 0
    · obtain ⟨c7, c8⟩ := c6 c
      rw [(e2 (e3 c).1).2.2] at c7 c8
      cases hq : fndN g (NM (j + 2)) nb 0 with
      | none =>
        rw [hq] at c7
        exact ⟨9999, neg c7, fun _ q => absurd (slp_0 (by decide) q).2 (by decide)⟩
      | some b =>
        rw [hq] at c7
        have ey : y = nI b := c7
        have ib := fndN_lt _ _ _ hq
        have n0 : (0 : Int32) ≤ nI b := nI_le (a := 0) (by omega) (by omega)
        have kb : 6 * sd + b < 12 := by omega
        rw [ey] at c1 hA2
        refine ⟨A 10 (6 * sd + b), ?_, fun _ q => hh b hq (by
          have q2 := (slp_0 (by decide) q).1
          rw [← hw1] at q2
          exact (slp_0 (by decide) q2).1)⟩
        have e10 : A2 10 = A 10 := by rw [o2 10 (by decide), o1 10 (by decide)]
        unfold fX12_tellFly
        simp -implicitDefEqProofs (disch := first | assumption | omega | decide | exact And.intro (by omega) (by omega)) only [mck, mg_0, mp_0, mr_1, mg_2, mp_2, mr_3, mg_4, mp_4, mr_5, mr_6, mr_7, mr_8, mr_9, mg_10, mp_10, mg_11, mp_11, mg_12, mp_12, mg_13, mp_13, mg_14, mp_14, mg_15, mp_15, mg_16, mp_16, mg_17, mp_17, mg_18, mp_18, mg_19, mp_19, mg_20, mp_20, mr_21, mr_22, mr_23, mr_24, mr_25, mr_26, mr_27, mr_28, mr_29, mr_30, mr_31, mr_32, mg_33, mp_33, mr_34, mr_35, mr_36, mr_37, mr_38, mg_39, mp_39, mr_40, mr_41, mr_42, mg_43, mp_43, mr_44, mr_45, mg_46, mp_46, mr_47, mr_48, mg_49, mp_49, mg_50, mp_50, mg_51, mp_51, mr_52, mr_53, mr_54, mg_55, mp_55, mr_56, mr_57, mg_58, mp_58, mg_59, mp_59, mg_60, mp_60, mr_61, mg_62, mp_62, mr_63, mr_64, mr_65, mr_66, mr_67, mr_68, ma_1, ms_1, ma_2, ms_2, ma_3, ms_3, ma_4, ms_4, ma_5, ms_5, ma_6, ms_6, ma_7, ms_7, ma_8, ms_8, ma_9, ms_9, ma_10, ms_10, ma_11, ms_11, ma_12, ms_12, ma_13, ms_13, ma_14, ms_14, ma_15, ms_15, ma_16, ms_16, ma_17, ms_17, ma_18, ms_18, ma_19, ms_19, ma_20, ms_20, ma_21, ms_21, ma_22, ms_22, ma_23, ms_23, ma_24, ms_24, ma_25, ms_25, ma_26, ms_26, ma_27, ms_27, ma_28, ms_28, ma_29, ms_29, ma_30, ms_30, ma_31, ms_31, ma_32, ms_32, ma_33, ms_33, ma_34, ms_34, ma_35, ms_35, ma_36, ms_36, ma_37, ms_37, ma_38, ms_38, ma_39, ms_39, ma_40, ms_40, ma_41, ms_41, ma_42, ms_42, ma_43, ms_43, if_true, if_false, Option.bind_some, cb_e, lt_e, nI_1, hs_nar2, nh4, upd_at, vau_at, ma_30_18, ms_30_18, ma_31_18, ms_31_18, ma_28_0, ms_28_0, ma_28_1, ms_28_1, ma_28_2, ms_28_2, ma_28_3, ms_28_3, ma_28_4, ms_28_4, ma_42_0, ms_42_0, ma_42_1, ms_42_1, ma_42_2, ms_42_2, ma_36_0, ms_36_0, h19, h13, six_nI, a1', hA1, b1', c1, hA2, if_pos n0, f319, e10]
    · exact ⟨9999, neg (c5 c), fun q => absurd q c⟩
  obtain ⟨hi, hrun, hhi⟩ := hix
  generalize hw2 : slp w1 (decide (fndN g (NM (j + 2)) nb 0 = none)) 4 (PL (j + 2)) = w2 at *
  have w2lt : ∀ q, j + 2 < q → q ≤ M → ¬ w2.1 = 0 → w2.2 < PL q := fun q hq hqm => by
    rw [← hw2]
    exact slp_lt (p0 := PL (j + 2)) (w1lt _ (by omega) (by omega)) (Nat.le_of_lt (hmono _ _ hq hqm)) (hmono _ _ hq hqm)
  obtain ⟨⟨l13, l14, l15⟩, l16⟩ := stp_ok hK (k := 17) (s := s3) (by decide) l10 l11
  obtain ⟨F4, z, d1, d2, d3, d4, d5, d6⟩ := m_bnd2 (B := B) (lo := 0) (h := h) (hi := hi) (w := w2) hK l10 c2 mk2 (fun q => by
    have := (c6 q).2
    rw [(e2 (e3 q).1).2.2, hw2] at this
    exact ⟨this, w2lt _ (by have := (e3 q).2; omega) l10⟩) hhi (hpl _ l10) (by decide)
  generalize hs4 : stp K 17 s3 = s4 at *
  have d1' : fX12_bounded 0 0 hi (mkM F3 A2 B) = some (z, mkM F4 A2 B) := d1
  generalize hA3 : va_up A2 16 (upd (A2 16) (6 * sd + nf) z) = A3
  have o3 : ∀ a, ¬ a = 16 → A3 a = A2 a := fun a ha => by rw [← hA3, vau_ne ha]
  have p3 : A3 16 = upd (A 16) (6 * sd + nf) z := by rw [← hA3, vau_at, o2 16 (by decide), o1 16 (by decide)]
  have mk3 : MTk A3 M K V PL := by
    unfold MTk at *
    rw [o3 3 (by decide), o3 4 (by decide), o3 5 (by decide)]
    exact mk2
  obtain ⟨⟨l17, l18, l19⟩, l20⟩ := stp_ok hK (k := 59) (s := s4) (by decide) l14 l15
  obtain ⟨F5, f1, f2, f3⟩ := m_stp (B := B) hK (k := 59) l14 d2 mk3 rfl (by decide)
  generalize hs5 : stp K 59 s4 = s5 at *
  have f1' : fX12_must 0 4 (mkM F4 A3 B) = some ((), mkM F5 A3 B) := f1
  have fo : ∀ k, ¬ (11 ≤ k ∧ k ≤ 16) → F5 k = F k := fun k q => by rw [f3 k (by omega) (by omega) (by omega), d3 k q, c3 k q, b3 k (by omega) (by omega) (by omega), a3 k q]
  have f12 : F5 12 = F 12 := by rw [f3 12 (by decide) (by decide) (by decide), d4, c4, b3 12 (by decide) (by decide) (by decide), a4]
  have q14 : A3 14 = upd (A 14) (6 * sd + nf) x := by rw [o3 14 (by decide), o2 14 (by decide)]; exact p1
  have q15 : A3 15 = upd (A 15) (6 * sd + nf) y := by rw [o3 15 (by decide)]; exact p2
  have q13 : A3 13 = A 13 := by rw [o3 13 (by decide), o2 13 (by decide), o1 13 (by decide)]
  have f513 := f2.1
  have f519 : F5 19 = nI sd := by rw [fo 19 (by decide)]; exact h19
  rw [hrun]
  by_cases cz : s5.1 = 0
  · obtain ⟨z1, z2, z3, z4⟩ := l20 cz
    obtain ⟨z5, z6, z7, z8⟩ := l16 z1
    have t3 := (e3 z5).2
    obtain ⟨t1, t2, t2'⟩ := e2 (e3 z5).1
    have f513' : F5 13 = 0 := by rw [f513, cz]; rfl
    have sm := (d6 z1).eq f3
    rw [t3] at sm d5
    have esl : slY V PL w (decide (fndN g (NM (j + 2)) nb 0 = none)) h j = slp w2 (decide (V (j + 3) < 0 ∨ h < V (j + 3))) 5 (PL (j + 3)) := by
      unfold slY
      rw [hw1, hw2]
    rw [esl]
    refine ⟨F5, va_up A3 13 (upd (A3 13) sd (nI (nf + 1))), x, y, z, ?_, f2, fo, f12, fun a n1 n2 n3 n4 => by rw [vau_ne n1, o3 a n4, o2 a n3, o1 a n2], ⟨by rw [vau_ne (by decide)]; exact q14, by rw [vau_ne (by decide)]; exact q15, by rw [vau_ne (by decide)]; exact p3⟩, fun q => absurd cz q, fun _ => ⟨by rw [vau_at, q13], sm, fun q => ?_⟩⟩
    · unfold fX12_tellFly_b80
      simp -implicitDefEqProofs (disch := first | assumption | omega | decide | exact And.intro (by omega) (by omega)) only [mck, mg_0, mp_0, mr_1, mg_2, mp_2, mr_3, mg_4, mp_4, mr_5, mr_6, mr_7, mr_8, mr_9, mg_10, mp_10, mg_11, mp_11, mg_12, mp_12, mg_13, mp_13, mg_14, mp_14, mg_15, mp_15, mg_16, mp_16, mg_17, mp_17, mg_18, mp_18, mg_19, mp_19, mg_20, mp_20, mr_21, mr_22, mr_23, mr_24, mr_25, mr_26, mr_27, mr_28, mr_29, mr_30, mr_31, mr_32, mg_33, mp_33, mr_34, mr_35, mr_36, mr_37, mr_38, mg_39, mp_39, mr_40, mr_41, mr_42, mg_43, mp_43, mr_44, mr_45, mg_46, mp_46, mr_47, mr_48, mg_49, mp_49, mg_50, mp_50, mg_51, mp_51, mr_52, mr_53, mr_54, mg_55, mp_55, mr_56, mr_57, mg_58, mp_58, mg_59, mp_59, mg_60, mp_60, mr_61, mg_62, mp_62, mr_63, mr_64, mr_65, mr_66, mr_67, mr_68, ma_1, ms_1, ma_2, ms_2, ma_3, ms_3, ma_4, ms_4, ma_5, ms_5, ma_6, ms_6, ma_7, ms_7, ma_8, ms_8, ma_9, ms_9, ma_10, ms_10, ma_11, ms_11, ma_12, ms_12, ma_13, ms_13, ma_14, ms_14, ma_15, ms_15, ma_16, ms_16, ma_17, ms_17, ma_18, ms_18, ma_19, ms_19, ma_20, ms_20, ma_21, ms_21, ma_22, ms_22, ma_23, ms_23, ma_24, ms_24, ma_25, ms_25, ma_26, ms_26, ma_27, ms_27, ma_28, ms_28, ma_29, ms_29, ma_30, ms_30, ma_31, ms_31, ma_32, ms_32, ma_33, ms_33, ma_34, ms_34, ma_35, ms_35, ma_36, ms_36, ma_37, ms_37, ma_38, ms_38, ma_39, ms_39, ma_40, ms_40, ma_41, ms_41, ma_42, ms_42, ma_43, ms_43, if_true, if_false, Option.bind_some, cb_e, lt_e, nI_1, hs_nar2, nh4, upd_at, vau_at, ma_30_18, ms_30_18, ma_31_18, ms_31_18, ma_28_0, ms_28_0, ma_28_1, ms_28_1, ma_28_2, ms_28_2, ma_28_3, ms_28_3, ma_28_4, ms_28_4, ma_42_0, ms_42_0, ma_42_1, ms_42_1, ma_42_2, ms_42_2, ma_36_0, ms_36_0, d1', hA3, f1', f513', f519, q13, h13]
    · have q2 := (slp_0 (by decide) q).1
      have c7 := (c6 z5).1
      rw [t2'] at c7
      exact ⟨(a5 t1).1, c7, d5 z1 q2⟩
  · have hz : ¬ F5 13 = 0 := by rw [f513]; exact nI_ne0 (by omega) (by omega)
    refine ⟨F5, A3, x, y, z, ?_, f2, fo, f12, fun a n1 n2 n3 n4 => by rw [o3 a n4, o2 a n3, o1 a n2], ⟨q14, q15, p3⟩, fun _ => q13, fun q => absurd q cz⟩
    unfold fX12_tellFly_b80
    simp -implicitDefEqProofs (disch := first | assumption | omega | decide | exact And.intro (by omega) (by omega)) only [mck, mg_0, mp_0, mr_1, mg_2, mp_2, mr_3, mg_4, mp_4, mr_5, mr_6, mr_7, mr_8, mr_9, mg_10, mp_10, mg_11, mp_11, mg_12, mp_12, mg_13, mp_13, mg_14, mp_14, mg_15, mp_15, mg_16, mp_16, mg_17, mp_17, mg_18, mp_18, mg_19, mp_19, mg_20, mp_20, mr_21, mr_22, mr_23, mr_24, mr_25, mr_26, mr_27, mr_28, mr_29, mr_30, mr_31, mr_32, mg_33, mp_33, mr_34, mr_35, mr_36, mr_37, mr_38, mg_39, mp_39, mr_40, mr_41, mr_42, mg_43, mp_43, mr_44, mr_45, mg_46, mp_46, mr_47, mr_48, mg_49, mp_49, mg_50, mp_50, mg_51, mp_51, mr_52, mr_53, mr_54, mg_55, mp_55, mr_56, mr_57, mg_58, mp_58, mg_59, mp_59, mg_60, mp_60, mr_61, mg_62, mp_62, mr_63, mr_64, mr_65, mr_66, mr_67, mr_68, ma_1, ms_1, ma_2, ms_2, ma_3, ms_3, ma_4, ms_4, ma_5, ms_5, ma_6, ms_6, ma_7, ms_7, ma_8, ms_8, ma_9, ms_9, ma_10, ms_10, ma_11, ms_11, ma_12, ms_12, ma_13, ms_13, ma_14, ms_14, ma_15, ms_15, ma_16, ms_16, ma_17, ms_17, ma_18, ms_18, ma_19, ms_19, ma_20, ms_20, ma_21, ms_21, ma_22, ms_22, ma_23, ms_23, ma_24, ms_24, ma_25, ms_25, ma_26, ms_26, ma_27, ms_27, ma_28, ms_28, ma_29, ms_29, ma_30, ms_30, ma_31, ms_31, ma_32, ms_32, ma_33, ms_33, ma_34, ms_34, ma_35, ms_35, ma_36, ms_36, ma_37, ms_37, ma_38, ms_38, ma_39, ms_39, ma_40, ms_40, ma_41, ms_41, ma_42, ms_42, ma_43, ms_43, if_true, if_false, Option.bind_some, cb_e, lt_e, nI_1, hs_nar2, nh4, upd_at, vau_at, ma_30_18, ms_30_18, ma_31_18, ms_31_18, ma_28_0, ms_28_0, ma_28_1, ms_28_1, ma_28_2, ms_28_2, ma_28_3, ms_28_3, ma_28_4, ms_28_4, ma_42_0, ms_42_0, ma_42_1, ms_42_1, ma_42_2, ms_42_2, ma_36_0, ms_36_0, d1', hA3, f1', if_neg hz]
end Y94
