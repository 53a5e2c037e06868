/-! ===== a law is told: the class ===== -/
/-- where a law starts, noted or not -/
def lwU (sl : Nat) (ob : Option Nat) (x : Int32) (f : Nat → Int32) : Nat → Int32 := match ob with
  | none => f
  | some b => if sl = 0 then upd f b x else f
/-- frame: the parser's fields, the code, the starts -/
def CFx (d : Nat) (F F' A A' : Nat → Nat → Int32) : Prop := (∀ c, ¬ c = 37 → ¬ c = d → F' c = F c) ∧ (∀ k, ¬ k = 5 → F' d k = F d k) ∧ (∀ k, ¬ k = 2 → ¬ k = 3 → ¬ k = 4 → F' 37 k = F 37 k) ∧ ∀ c, ¬ c = d + 4 → ¬ c = d + 5 → ¬ c = d + 6 → A' c = A c
def CBl (d c : Nat) (A A' : Nat → Nat → Int32) : Prop := ∀ j, j < c → A' (d + 5) j = A (d + 5) j ∧ A' (d + 6) j = A (d + 6) j
theorem CFx.of {d : Nat} {F F' A A' : Nat → Nat → Int32} (h : CFr d F F' A A') : CFx d F F' A A' := ⟨h.1, h.2.1, h.2.2.1, fun c _ q2 q3 => h.2.2.2 c q2 q3⟩
theorem CFx.tr {d : Nat} {F F1 F2 A A1 A2 : Nat → Nat → Int32} (h : CFx d F F1 A A1) (g : CFx d F1 F2 A1 A2) : CFx d F F2 A A2 := ⟨fun c q1 q2 => (g.1 c q1 q2).trans (h.1 c q1 q2), fun k q => (g.2.1 k q).trans (h.2.1 k q), fun k q1 q2 q3 => (g.2.2.1 k q1 q2 q3).trans (h.2.2.1 k q1 q2 q3), fun c q1 q2 q3 => (g.2.2.2 c q1 q2 q3).trans (h.2.2.2 c q1 q2 q3)⟩
section C9b
variable {d M : Nat} {K V PL : Nat → Nat} {B : Nat → Nat → Int64} {r : Nat → Nat}
theorem c_brn (hK : TkK M K V) (hd : d = 7 ∨ d = 22) (hr : r 2 = d) {t c i fuel : Nat} {x2 x3 : Int32} {F A : Nat → Nat → Int32} (ht : t ≤ M) (hpo : CPo F PL 0 t) (h5 : F d 5 = nI c) (hc : c ≤ t) (htk : CTk A B M K V PL) (e8 : K t = 8) (hi : i < 4) : ∃ F' A' c', fX3_tellHeavy_b37 (fuel + 1) 37 x2 x3 (nI i) (mkC F A B r) = fX3_tellHeavy_b37 fuel 37 x2 x3 (nI (i + 1)) (mkC F' A' B r) ∧ CPo F' PL (bs7 K V t).1 (bs7 K V t).2 ∧ CFr d F F' A A' ∧ CTk A' B M K V PL ∧ (F' d 5 = nI c' ∧ c' ≤ 400) ∧ ((bs7 K V t).1 = 0 → c' = c + (brL K V t).1.length + (brL K V t).2.1.length + 1 + (brL K V t).2.2.length + 1 ∧ c' + 2 ≤ (bs7 K V t).2 ∧ CBl d c A A' ∧ SegC A' d c (brL K V t).1 ∧ SegC A' d (c + (brL K V t).1.length) (brL K V t).2.1 ∧ (A' (d + 5) (c + (brL K V t).1.length + (brL K V t).2.1.length) = nI 3 ∧ A' (d + 6) (c + (brL K V t).1.length + (brL K V t).2.1.length) = nI c') ∧ SegC A' d (c + (brL K V t).1.length + (brL K V t).2.1.length + 1) (brL K V t).2.2 ∧ A' (d + 5) (c + (brL K V t).1.length + (brL K V t).2.1.length + 1 + (brL K V t).2.2.length) = nI 4) := by
  have hM := hK.1
  have hc4 : c ≤ 400 := by omega
  obtain ⟨⟨m1, m1'⟩, ⟨m2, m2'⟩, ⟨m3, m3'⟩, ⟨m4, m4'⟩, ⟨m5, m5'⟩, ⟨m6, m6'⟩, ⟨m7, m7'⟩, o1, o2, o3, o4, o5, o6, o7⟩ := bs_ok hK ht
  have n4 : ¬ (4 : Int32) < nI i := nI_nlt (a := 4) (b := i) (by omega) (by decide)
  have n4' : ¬ nI i = (4 : Int32) := fun q => by
    have := (nI_eq (b := 4) (by omega) (by decide)).1 q
    omega
  have c33 : F 37 3 = 0 := hpo.1
  obtain ⟨x, x1, xe, x3e⟩ := hpo.2.1
  rw [x3e rfl] at xe
  have t402 : t < 402 := by omega
  have kt : A 4 t = (8 : Int32) := by rw [(htk t ht).1, e8]; rfl
  have hrx : ∀ Fx Ax : Nat → Nat → Int32, gR (mkC Fx Ax B r) 3 37 1 = some d := fun Fx Ax => by rw [cr3_1 rfl, hr]
  obtain ⟨F1, y1, a1, a2, a3, a4⟩ := c_tk (B := B) (r := r) hK hd (k := 8) (s := (0, t)) ht hpo h5 hc4 htk (by decide) (by decide)
  have a2' : CPo F1 PL (bs1 K t).1 (bs1 K t).2 := a2
  obtain ⟨F2, A2, c2, b1, b2, b3, b4, ⟨b5, b6, b6'⟩, b7⟩ := c_ex (B := B) hK hd hr m1 a2' a4 hc4 (fun q => by have := o1 q; omega) htk
  have b2' : CPo F2 PL (bs2 K V t).1 (bs2 K V t).2 := b2
  have b7' : (bs2 K V t).1 = 0 → c2 = c + (brL K V t).1.length ∧ SegC A2 d c (brL K V t).1 := b7
  obtain ⟨F3, y3, d1, d2, d3, d4⟩ := c_tk (B := B) (r := r) hK hd (k := 60) m2 b2' b5 b6' b4 (by decide) (by decide)
  have d2' : CPo F3 PL (bs3 K V t).1 (bs3 K V t).2 := d2
  have g3 : (bs3 K V t).1 = 0 → c2 + 2 ≤ (bs3 K V t).2 := fun q => by
    obtain ⟨w1, w2⟩ := o3 q
    obtain ⟨w3, w4, _⟩ := o2 w1
    have := o1 w3
    have := (b7' w1).1
    omega
  obtain ⟨F4, A4, c4, f1, f2, f3, f4, ⟨f5, f6, f6'⟩, f7⟩ := c_ex (B := B) hK hd hr m3 d2' d4 b6' (fun q => by have := g3 q; omega) b4
  have f2' : CPo F4 PL (bs4 K V t).1 (bs4 K V t).2 := f2
  have f7' : (bs4 K V t).1 = 0 → c4 = c2 + (brL K V t).2.1.length ∧ SegC A4 d c2 (brL K V t).2.1 := f7
  obtain ⟨v, F5, A5, c5, g1, g2, g3', g4, ⟨g5, g6, g6'⟩, g7⟩ := c_em (r := r) hd f2' f5 f6' f4 3 0
  have l4 : (bs4 K V t).1 = 0 → c4 + 2 ≤ (bs4 K V t).2 := fun q => by
    obtain ⟨w1, w2, w3, _⟩ := o4 q
    have := g3 w1
    have := (f7' q).1
    omega
  obtain ⟨F6, y6, i1, i2, i3, i4⟩ := c_tk (B := B) (r := r) hK hd (k := 9) m4 g2 g5 g6' g4 (by decide) (by decide)
  have i2' : CPo F6 PL (bs5 K V t).1 (bs5 K V t).2 := i2
  have l5 : (bs5 K V t).1 = 0 → c4 < 400 ∧ c5 = c4 + 1 ∧ c5 + 2 ≤ (bs5 K V t).2 := fun q => by
    obtain ⟨w1, w2⟩ := o5 q
    have w3 := l4 w1
    have w4 : c4 < 400 := by omega
    have := (g7 w4).2.1
    omega
  obtain ⟨F7, A7, c7, j1, j2, j3, j4, ⟨j5, j6, j6'⟩, j7⟩ := c_ex (B := B) hK hd hr m5 i2' i4 g6' (fun q => by have := l5 q; omega) g4
  have j2' : CPo F7 PL (bs6 K V t).1 (bs6 K V t).2 := j2
  have j7' : (bs6 K V t).1 = 0 → c7 = c5 + (brL K V t).2.2.length ∧ SegC A7 d c5 (brL K V t).2.2 := j7
  obtain ⟨v', F8, A8, c8, k1, k2, k3, k4, ⟨k5, k6, k6'⟩, k7⟩ := c_em (r := r) hd j2' j5 j6' j4 4 0
  obtain ⟨F9, y9, p1, p2, p3, p4⟩ := c_tk (B := B) (r := r) hK hd (k := 10) m6 k2 k5 k6' k4 (by decide) (by decide)
  have p2' : CPo F9 PL (bs7 K V t).1 (bs7 K V t).2 := p2
  obtain ⟨A10, q1, q2, q3⟩ := c_aim (B := B) (r := r) (A := A8) hd p4 k6' v
  have a1' : fX3_take 37 8 (mkC F A B r) = some (y1, mkC F1 A B r) := a1
  have d1' : fX3_take 37 60 (mkC F2 A2 B r) = some (y3, mkC F3 A2 B r) := d1
  have i1' : fX3_take 37 9 (mkC F5 A5 B r) = some (y6, mkC F6 A5 B r) := i1
  have p1' : fX3_take 37 10 (mkC F8 A8 B r) = some (y9, mkC F9 A8 B r) := p1
  have run : fX3_tellHeavy_b37 (fuel + 1) 37 x2 x3 (nI i) (mkC F A B r) = fX3_tellHeavy_b37 fuel 37 x2 x3 (nI (i + 1)) (mkC F9 A10 B r) := by
    rw [fX3_tellHeavy_b37]
    simp -implicitDefEqProofs (disch := first | assumption | omega | decide | exact And.intro (by omega) (by omega)) only [cck_0, cr0_0, cr0_1, cr0_2, cr0_3, cg0_4, cp0_4, cg0_5, cp0_5, cck_1, cg1_0, cp1_0, cr1_1, cr1_2, cr1_3, cg1_4, cp1_4, cg1_5, cp1_5, cr1_6, cr1_7, cck_2, cr2_0, cr2_1, cr2_2, cck_3, cr3_0, cr3_1, cg3_2, cp3_2, cg3_3, cp3_3, cg3_4, cp3_4, cg3_5, cp3_5, cg3_6, cp3_6, cg3_7, cp3_7, cg3_8, cp3_8, cck_4, cg4_0, cp4_0, cg4_1, cp4_1, cr4_2, cr4_3, cr4_4, cr4_5, cck_5, cg5_0, cp5_0, cr5_1, cr5_2, cr5_3, cck_6, cg6_0, cp6_0, cg6_1, cp6_1, cck_7, cg7_0, cp7_0, cg7_1, cp7_1, cr7_2, cr7_3, cr7_4, cr7_5, cr7_6, cr7_7, cr7_8, cck_8, cr8_0, cr8_1, cck_9, cr9_0, cr9_1, cr9_2, cr9_3, cg9_4, cp9_4, cck_10, cg10_0, cp10_0, cr10_1, cr10_2, cr10_3, cr10_4, cg10_5, cp10_5, cr10_6, cr10_7, cr10_8, cg10_9, cp10_9, cg10_10, cp10_10, cr10_11, cr10_12, cr10_13, cr10_14, cck_11, cr11_0, cg11_1, cp11_1, cr11_2, cr11_3, cr11_4, cr11_5, cr11_6, cr11_7, cr11_8, cr11_9, cr11_10, cr11_11, cr11_12, cr11_13, cr11_14, ca_30, cs_30, ca_31, cs_31, ca_32, cs_32, ca_33, cs_33, ca_34, cs_34, ca_35, cs_35, ca_36, cs_36, ca_37, cs_37, ca_38, cs_38, ca_39, cs_39, ca_40, cs_40, ca_41, cs_41, ca_42, cs_42, car_20, car_21, car_22, cq11_3, cq11_4, cq3_1, cq0_0, cq0_1, if_true, if_false, Option.bind_some, cb_e, lt_e, nI_1, hs_nar2, nh4, upd_at, vau_at, ca_42_0, cs_42_0, if_neg n4, c33, xe, kt, if_neg n4', a1', b1, d1', f1, hrx, g1, i1', j1, k1, p1', q1]
  have T9 := p3
  have T8 := k3.tr T9 k6
  have T7 := j3.tr T8 j6
  have T6 := i3.tr T7 (Nat.le_refl _)
  have T5 := g3'.tr T6 g6
  have T4 := f3.tr T5 f6
  have T3 := d3.tr T4 (Nat.le_refl _)
  have T2 := b3.tr T3 b6
  have T1 := a3.tr T2 (Nat.le_refl _)
  have fr : CFr d F F9 A A10 := ⟨T1.1.1, T1.1.2.1, T1.1.2.2.1, fun x z1 z2 => by rw [q2 x z2]; exact T1.1.2.2.2 x z1 z2⟩
  refine ⟨F9, A10, c8, run, p2', fr, htk.fr hd fr, ⟨p4, k6'⟩, fun z => ?_⟩
  obtain ⟨z6, z6'⟩ := o7 z
  obtain ⟨z5, g5e, _, _⟩ := o6 z6
  obtain ⟨z4, z4'⟩ := o5 z5
  obtain ⟨z3, _⟩ := o4 z4
  obtain ⟨z2, _⟩ := o3 z3
  obtain ⟨e2, s1⟩ := b7' z2
  obtain ⟨e4, s2⟩ := f7' z4
  obtain ⟨w4, e5, w5⟩ := l5 z5
  obtain ⟨gv, _, g8, g9⟩ := g7 w4
  obtain ⟨e7, s3⟩ := j7' z6
  have w7 : c7 < 400 := by omega
  obtain ⟨_, e8', k8, k9⟩ := k7 w7
  have q4 := q3 c4 gv (by omega)
  have A5d : A10 (d + 5) = A8 (d + 5) := q2 (d + 5) (by omega)
  have cod : ∀ j, ¬ j = c4 → A10 (d + 5) j = A8 (d + 5) j ∧ A10 (d + 6) j = A8 (d + 6) j := fun j hj => ⟨by rw [A5d], by rw [q4, upd_ne hj]⟩
  subst e2 e4 e5 e7 e8'
  refine ⟨rfl, by omega, fun j hj => ?_, ?_, ?_, ⟨?_, ?_⟩, ?_, ?_⟩
  · rw [(cod j (by omega)).1, (cod j (by omega)).2]
    exact T1.2.1 j hj
  · refine s1.eq (fun j h1 h2 => ?_)
    rw [(cod j (by omega)).1, (cod j (by omega)).2]
    exact T3.2.1 j h2
  · refine s2.eq (fun j h1 h2 => ?_)
    rw [(cod j (by omega)).1, (cod j (by omega)).2]
    exact T5.2.1 j h2
  · rw [A5d, (T6.2.1 _ (by omega)).1, g8, upd_at]
    rfl
  · rw [q4, upd_at]
  · refine s3.eq (fun j h1 h2 => ?_)
    rw [(cod j (by omega)).1, (cod j (by omega)).2]
    exact T8.2.1 j h2
  · rw [A5d, (T9.2.1 _ (by omega)).1, k8, upd_at]
    rfl
theorem c_lst (hK : TkK M K V) (hd : d = 7 ∨ d = 22) (hr : r 2 = d) {s : Nat × Nat} {c sl : Nat} {ob : Option Nat} {x2 x3 : Int32} {F A : Nat → Nat → Int32} (hs : s.2 ≤ M) (hs2 : s.1 ≤ 2) (hpo : CPo F PL s.1 s.2) (h5 : F d 5 = nI c) (hc4 : c ≤ 400) (hc : s.1 = 0 → c < s.2) (htk : CTk A B M K V PL) (hsl : F 37 5 = nI sl ∧ sl ≤ 5) (hx : s.1 = 0 → x2 = rF (-1) ob ∧ ∀ b, ob = some b → b < 6) : ∃ F' A', fX3_tellHeavy_b158 37 x2 x3 (mkC F A B r) = some ((), mkC F' A' B r) ∧ CPo F' PL (stp K 59 (exs K V s)).1 (stp K 59 (exs K V s)).2 ∧ CFx d F F' A A' ∧ ((stp K 59 (exs K V s)).1 = 0 → F' d 5 = nI (c + (exl K V s).length + 1) ∧ CBl d c A A' ∧ SegC A' d c (exl K V s) ∧ A' (d + 5) (c + (exl K V s).length) = nI 4 ∧ A' (d + 4) = lwU sl ob x3 (A (d + 4))) := by
  have hM := hK.1
  have d37 : ¬ d = 37 := by omega
  have kd : c_kd d = 10 := by rcases hd with h | h <;> subst h <;> rfl
  have kd4 : c_kd (d + 4) = 35 := by rcases hd with h | h <;> subst h <;> rfl
  have hrx : ∀ Fx Ax : Nat → Nat → Int32, gR (mkC Fx Ax B r) 3 37 1 = some d := fun Fx Ax => by rw [cr3_1 rfl, hr]
  obtain ⟨⟨m1, m2, m3⟩, m4⟩ := exs_ok hK (s := s) hs hs2
  obtain ⟨⟨l1, l2, l3⟩, l4⟩ := stp_ok hK (k := 59) (s := exs K V s) (by decide) m2 m3
  obtain ⟨F2, A2, c2, b1, b2, b3, b4, ⟨b5, b6, b6'⟩, b7⟩ := c_ex (B := B) hK hd hr hs hpo h5 hc4 (fun q => by have := hc q; omega) htk
  obtain ⟨v', F8, A8, c8, k1, k2, k3, k4, ⟨k5, k6, k6'⟩, k7⟩ := c_em (r := r) hd b2 b5 b6' b4 4 0
  obtain ⟨F9, y9, p1, p2, p3, p4⟩ := c_tk (B := B) (r := r) hK hd (k := 59) m2 k2 k5 k6' k4 (by decide) (by decide)
  have p1' : fX3_take 37 59 (mkC F8 A8 B r) = some (y9, mkC F9 A8 B r) := p1
  have T9 := p3
  have T8 := k3.tr T9 k6
  have T2 := b3.tr T8 b6
  have f95 : F9 37 5 = nI sl := by rw [T2.1.2.2.1 5 (by decide) (by decide) (by decide)]; exact hsl.1
  have f93 := p2.1
  by_cases z : (stp K 59 (exs K V s)).1 = 0
  · obtain ⟨z1, z2, _, _⟩ := l4 z
    obtain ⟨z3, z4, _, _⟩ := m4 z1
    obtain ⟨e2, s2⟩ := b7 z1
    have := hc z3
    have w2 : c2 < 400 := by omega
    obtain ⟨_, e8, k8, k9⟩ := k7 w2
    obtain ⟨ex2, hob⟩ := hx z3
    have f93' : F9 37 3 = 0 := by rw [f93, z]; rfl
    subst e2 e8
    have fin : ∀ A9 : Nat → Nat → Int32, A9 (d + 5) = A8 (d + 5) → A9 (d + 6) = A8 (d + 6) → CBl d c A A9 ∧ SegC A9 d c (exl K V s) ∧ A9 (d + 5) (c + (exl K V s).length) = nI 4 := fun A9 q5 q6 => by
      refine ⟨fun j hj => ?_, s2.eq (fun j h1 h2 => ?_), ?_⟩
      · rw [q5, q6]
        exact T2.2.1 j hj
      · rw [q5, q6]
        exact T8.2.1 j h2
      · rw [q5, (T9.2.1 _ (by omega)).1, k8, upd_at]
        rfl
    have A4d : A8 (d + 4) = A (d + 4) := T2.1.2.2.2 (d + 4) (by omega) (by omega)
    cases ob with
    | none =>
      have ex : x2 = -1 := ex2
      obtain ⟨q1, q2, q3⟩ := fin A8 rfl rfl
      refine ⟨F9, A8, ?_, p2, CFx.of T2.1, fun _ => ⟨p4, q1, q2, q3, A4d⟩⟩
      unfold fX3_tellHeavy_b158
      by_cases c0 : sl = 0
      · have f95' : F9 37 5 = 0 := by rw [f95, c0]; rfl
        simp -implicitDefEqProofs (disch := first | assumption | omega | decide | exact And.intro (by omega) (by omega)) only [cck_0, cr0_0, cr0_1, cr0_2, cr0_3, cg0_4, cp0_4, cg0_5, cp0_5, cck_1, cg1_0, cp1_0, cr1_1, cr1_2, cr1_3, cg1_4, cp1_4, cg1_5, cp1_5, cr1_6, cr1_7, cck_2, cr2_0, cr2_1, cr2_2, cck_3, cr3_0, cr3_1, cg3_2, cp3_2, cg3_3, cp3_3, cg3_4, cp3_4, cg3_5, cp3_5, cg3_6, cp3_6, cg3_7, cp3_7, cg3_8, cp3_8, cck_4, cg4_0, cp4_0, cg4_1, cp4_1, cr4_2, cr4_3, cr4_4, cr4_5, cck_5, cg5_0, cp5_0, cr5_1, cr5_2, cr5_3, cck_6, cg6_0, cp6_0, cg6_1, cp6_1, cck_7, cg7_0, cp7_0, cg7_1, cp7_1, cr7_2, cr7_3, cr7_4, cr7_5, cr7_6, cr7_7, cr7_8, cck_8, cr8_0, cr8_1, cck_9, cr9_0, cr9_1, cr9_2, cr9_3, cg9_4, cp9_4, cck_10, cg10_0, cp10_0, cr10_1, cr10_2, cr10_3, cr10_4, cg10_5, cp10_5, cr10_6, cr10_7, cr10_8, cg10_9, cp10_9, cg10_10, cp10_10, cr10_11, cr10_12, cr10_13, cr10_14, cck_11, cr11_0, cg11_1, cp11_1, cr11_2, cr11_3, cr11_4, cr11_5, cr11_6, cr11_7, cr11_8, cr11_9, cr11_10, cr11_11, cr11_12, cr11_13, cr11_14, ca_30, cs_30, ca_31, cs_31, ca_32, cs_32, ca_33, cs_33, ca_34, cs_34, ca_35, cs_35, ca_36, cs_36, ca_37, cs_37, ca_38, cs_38, ca_39, cs_39, ca_40, cs_40, ca_41, cs_41, ca_42, cs_42, car_20, car_21, car_22, cq11_3, cq11_4, cq3_1, cq0_0, cq0_1, if_true, if_false, Option.bind_some, cb_e, lt_e, nI_1, hs_nar2, nh4, upd_at, vau_at, ca_42_0, cs_42_0, b1, hrx, k1, p1', f93', f95', ex]
      · have hz : ¬ F9 37 5 = 0 := by rw [f95]; exact nI_ne0 (by omega) (by omega)
        simp -implicitDefEqProofs (disch := first | assumption | omega | decide | exact And.intro (by omega) (by omega)) only [cck_0, cr0_0, cr0_1, cr0_2, cr0_3, cg0_4, cp0_4, cg0_5, cp0_5, cck_1, cg1_0, cp1_0, cr1_1, cr1_2, cr1_3, cg1_4, cp1_4, cg1_5, cp1_5, cr1_6, cr1_7, cck_2, cr2_0, cr2_1, cr2_2, cck_3, cr3_0, cr3_1, cg3_2, cp3_2, cg3_3, cp3_3, cg3_4, cp3_4, cg3_5, cp3_5, cg3_6, cp3_6, cg3_7, cp3_7, cg3_8, cp3_8, cck_4, cg4_0, cp4_0, cg4_1, cp4_1, cr4_2, cr4_3, cr4_4, cr4_5, cck_5, cg5_0, cp5_0, cr5_1, cr5_2, cr5_3, cck_6, cg6_0, cp6_0, cg6_1, cp6_1, cck_7, cg7_0, cp7_0, cg7_1, cp7_1, cr7_2, cr7_3, cr7_4, cr7_5, cr7_6, cr7_7, cr7_8, cck_8, cr8_0, cr8_1, cck_9, cr9_0, cr9_1, cr9_2, cr9_3, cg9_4, cp9_4, cck_10, cg10_0, cp10_0, cr10_1, cr10_2, cr10_3, cr10_4, cg10_5, cp10_5, cr10_6, cr10_7, cr10_8, cg10_9, cp10_9, cg10_10, cp10_10, cr10_11, cr10_12, cr10_13, cr10_14, cck_11, cr11_0, cg11_1, cp11_1, cr11_2, cr11_3, cr11_4, cr11_5, cr11_6, cr11_7, cr11_8, cr11_9, cr11_10, cr11_11, cr11_12, cr11_13, cr11_14, ca_30, cs_30, ca_31, cs_31, ca_32, cs_32, ca_33, cs_33, ca_34, cs_34, ca_35, cs_35, ca_36, cs_36, ca_37, cs_37, ca_38, cs_38, ca_39, cs_39, ca_40, cs_40, ca_41, cs_41, ca_42, cs_42, car_20, car_21, car_22, cq11_3, cq11_4, cq3_1, cq0_0, cq0_1, if_true, if_false, Option.bind_some, cb_e, lt_e, nI_1, hs_nar2, nh4, upd_at, vau_at, ca_42_0, cs_42_0, b1, hrx, k1, p1', f93', if_neg hz]
    | some b =>
      have ex : x2 = nI b := ex2
      have b6' := hob b rfl
      have n1 : ¬ nI b = (-1 : Int32) := nI_ne1 (by omega)
      by_cases c0 : sl = 0
      · have f95' : F9 37 5 = 0 := by rw [f95, c0]; rfl
        obtain ⟨q1, q2, q3⟩ := fin (va_up A8 (d + 4) (upd (A8 (d + 4)) b x3)) (vau_ne (by omega)) (vau_ne (by omega))
        refine ⟨F9, va_up A8 (d + 4) (upd (A8 (d + 4)) b x3), ?_, p2, ⟨T2.1.1, T2.1.2.1, T2.1.2.2.1, fun x z1 z2 z3 => by rw [vau_ne z1]; exact T2.1.2.2.2 x z2 z3⟩, fun _ => ⟨p4, q1, q2, q3, ?_⟩⟩
        · unfold fX3_tellHeavy_b158
          simp -implicitDefEqProofs (disch := first | assumption | omega | decide | exact And.intro (by omega) (by omega)) only [cck_0, cr0_0, cr0_1, cr0_2, cr0_3, cg0_4, cp0_4, cg0_5, cp0_5, cck_1, cg1_0, cp1_0, cr1_1, cr1_2, cr1_3, cg1_4, cp1_4, cg1_5, cp1_5, cr1_6, cr1_7, cck_2, cr2_0, cr2_1, cr2_2, cck_3, cr3_0, cr3_1, cg3_2, cp3_2, cg3_3, cp3_3, cg3_4, cp3_4, cg3_5, cp3_5, cg3_6, cp3_6, cg3_7, cp3_7, cg3_8, cp3_8, cck_4, cg4_0, cp4_0, cg4_1, cp4_1, cr4_2, cr4_3, cr4_4, cr4_5, cck_5, cg5_0, cp5_0, cr5_1, cr5_2, cr5_3, cck_6, cg6_0, cp6_0, cg6_1, cp6_1, cck_7, cg7_0, cp7_0, cg7_1, cp7_1, cr7_2, cr7_3, cr7_4, cr7_5, cr7_6, cr7_7, cr7_8, cck_8, cr8_0, cr8_1, cck_9, cr9_0, cr9_1, cr9_2, cr9_3, cg9_4, cp9_4, cck_10, cg10_0, cp10_0, cr10_1, cr10_2, cr10_3, cr10_4, cg10_5, cp10_5, cr10_6, cr10_7, cr10_8, cg10_9, cp10_9, cg10_10, cp10_10, cr10_11, cr10_12, cr10_13, cr10_14, cck_11, cr11_0, cg11_1, cp11_1, cr11_2, cr11_3, cr11_4, cr11_5, cr11_6, cr11_7, cr11_8, cr11_9, cr11_10, cr11_11, cr11_12, cr11_13, cr11_14, ca_30, cs_30, ca_31, cs_31, ca_32, cs_32, ca_33, cs_33, ca_34, cs_34, ca_35, cs_35, ca_36, cs_36, ca_37, cs_37, ca_38, cs_38, ca_39, cs_39, ca_40, cs_40, ca_41, cs_41, ca_42, cs_42, car_20, car_21, car_22, cq11_3, cq11_4, cq3_1, cq0_0, cq0_1, if_true, if_false, Option.bind_some, cb_e, lt_e, nI_1, hs_nar2, nh4, upd_at, vau_at, ca_42_0, cs_42_0, b1, hrx, k1, p1', f93', f95', ex, if_neg n1]
        · rw [vau_at, A4d]
          exact (if_pos c0).symm
      · have hz : ¬ F9 37 5 = 0 := by rw [f95]; exact nI_ne0 (by omega) (by omega)
        obtain ⟨q1, q2, q3⟩ := fin A8 rfl rfl
        refine ⟨F9, A8, ?_, p2, CFx.of T2.1, fun _ => ⟨p4, q1, q2, q3, ?_⟩⟩
        · unfold fX3_tellHeavy_b158
          simp -implicitDefEqProofs (disch := first | assumption | omega | decide | exact And.intro (by omega) (by omega)) only [cck_0, cr0_0, cr0_1, cr0_2, cr0_3, cg0_4, cp0_4, cg0_5, cp0_5, cck_1, cg1_0, cp1_0, cr1_1, cr1_2, cr1_3, cg1_4, cp1_4, cg1_5, cp1_5, cr1_6, cr1_7, cck_2, cr2_0, cr2_1, cr2_2, cck_3, cr3_0, cr3_1, cg3_2, cp3_2, cg3_3, cp3_3, cg3_4, cp3_4, cg3_5, cp3_5, cg3_6, cp3_6, cg3_7, cp3_7, cg3_8, cp3_8, cck_4, cg4_0, cp4_0, cg4_1, cp4_1, cr4_2, cr4_3, cr4_4, cr4_5, cck_5, cg5_0, cp5_0, cr5_1, cr5_2, cr5_3, cck_6, cg6_0, cp6_0, cg6_1, cp6_1, cck_7, cg7_0, cp7_0, cg7_1, cp7_1, cr7_2, cr7_3, cr7_4, cr7_5, cr7_6, cr7_7, cr7_8, cck_8, cr8_0, cr8_1, cck_9, cr9_0, cr9_1, cr9_2, cr9_3, cg9_4, cp9_4, cck_10, cg10_0, cp10_0, cr10_1, cr10_2, cr10_3, cr10_4, cg10_5, cp10_5, cr10_6, cr10_7, cr10_8, cg10_9, cp10_9, cg10_10, cp10_10, cr10_11, cr10_12, cr10_13, cr10_14, cck_11, cr11_0, cg11_1, cp11_1, cr11_2, cr11_3, cr11_4, cr11_5, cr11_6, cr11_7, cr11_8, cr11_9, cr11_10, cr11_11, cr11_12, cr11_13, cr11_14, ca_30, cs_30, ca_31, cs_31, ca_32, cs_32, ca_33, cs_33, ca_34, cs_34, ca_35, cs_35, ca_36, cs_36, ca_37, cs_37, ca_38, cs_38, ca_39, cs_39, ca_40, cs_40, ca_41, cs_41, ca_42, cs_42, car_20, car_21, car_22, cq11_3, cq11_4, cq3_1, cq0_0, cq0_1, if_true, if_false, Option.bind_some, cb_e, lt_e, nI_1, hs_nar2, nh4, upd_at, vau_at, ca_42_0, cs_42_0, b1, hrx, k1, p1', f93', if_neg hz]
        · rw [A4d]
          exact (if_neg c0).symm
  · have hz : ¬ F9 37 3 = 0 := by rw [f93]; exact nI_ne0 (by omega) (by omega)
    refine ⟨F9, A8, ?_, p2, CFx.of T2.1, fun q => absurd q z⟩
    unfold fX3_tellHeavy_b158
    simp -implicitDefEqProofs (disch := first | assumption | omega | decide | exact And.intro (by omega) (by omega)) only [cck_0, cr0_0, cr0_1, cr0_2, cr0_3, cg0_4, cp0_4, cg0_5, cp0_5, cck_1, cg1_0, cp1_0, cr1_1, cr1_2, cr1_3, cg1_4, cp1_4, cg1_5, cp1_5, cr1_6, cr1_7, cck_2, cr2_0, cr2_1, cr2_2, cck_3, cr3_0, cr3_1, cg3_2, cp3_2, cg3_3, cp3_3, cg3_4, cp3_4, cg3_5, cp3_5, cg3_6, cp3_6, cg3_7, cp3_7, cg3_8, cp3_8, cck_4, cg4_0, cp4_0, cg4_1, cp4_1, cr4_2, cr4_3, cr4_4, cr4_5, cck_5, cg5_0, cp5_0, cr5_1, cr5_2, cr5_3, cck_6, cg6_0, cp6_0, cg6_1, cp6_1, cck_7, cg7_0, cp7_0, cg7_1, cp7_1, cr7_2, cr7_3, cr7_4, cr7_5, cr7_6, cr7_7, cr7_8, cck_8, cr8_0, cr8_1, cck_9, cr9_0, cr9_1, cr9_2, cr9_3, cg9_4, cp9_4, cck_10, cg10_0, cp10_0, cr10_1, cr10_2, cr10_3, cr10_4, cg10_5, cp10_5, cr10_6, cr10_7, cr10_8, cg10_9, cp10_9, cg10_10, cp10_10, cr10_11, cr10_12, cr10_13, cr10_14, cck_11, cr11_0, cg11_1, cp11_1, cr11_2, cr11_3, cr11_4, cr11_5, cr11_6, cr11_7, cr11_8, cr11_9, cr11_10, cr11_11, cr11_12, cr11_13, cr11_14, ca_30, cs_30, ca_31, cs_31, ca_32, cs_32, ca_33, cs_33, ca_34, cs_34, ca_35, cs_35, ca_36, cs_36, ca_37, cs_37, ca_38, cs_38, ca_39, cs_39, ca_40, cs_40, ca_41, cs_41, ca_42, cs_42, car_20, car_21, car_22, cq11_3, cq11_4, cq3_1, cq0_0, cq0_1, if_true, if_false, Option.bind_some, cb_e, lt_e, nI_1, hs_nar2, nh4, upd_at, vau_at, ca_42_0, cs_42_0, b1, hrx, k1, p1', if_neg hz]
theorem c_law (hK : TkK M K V) (hd : d = 7 ∨ d = 22) (hr : r 2 = d) {sl : Nat} {ob : Option Nat} {x2 x3 : Int32} (hs5 : sl ≤ 5) (hx : x2 = rF (-1) ob ∧ ∀ b, ob = some b → b < 6) : ∀ k t c fuel (F A : Nat → Nat → Int32), t ≤ M → k ≤ 4 → CPo F PL 0 t → F d 5 = nI c → c < t → CTk A B M K V PL → F 37 5 = nI sl → k + 1 < fuel → ∃ F' A', fX3_tellHeavy_b37 fuel 37 x2 x3 (nI (4 - k)) (mkC F A B r) = some ((), mkC F' A' B r) ∧ CPo F' PL (lwS K V k t).1.1 (lwS K V k t).1.2 ∧ CFx d F F' A A' ∧ ((lwS K V k t).1.1 = 0 → F' d 5 = nI (c + szC (lwS K V k t).2.1 (lwS K V k t).2.2) ∧ CBl d c A A' ∧ LayC A' d (lwS K V k t).2.1 (lwS K V k t).2.2 c ∧ A' (d + 4) = lwU sl ob x3 (A (d + 4))) := by
  have hM := hK.1
  have step : ∀ i t fuel (F A : Nat → Nat → Int32), i ≤ 4 → t ≤ M → CPo F PL 0 t → CTk A B M K V PL → ¬ K t = 8 → fX3_tellHeavy_b37 (fuel + 1) 37 x2 x3 (nI i) (mkC F A B r) = fX3_tellHeavy_b158 37 x2 x3 (mkC F A B r) := by
    intro i t fuel F A hi ht hpo htk ne
    have n4 : ¬ (4 : Int32) < nI i := nI_nlt (a := 4) (b := i) (by omega) (by decide)
    have c33 : F 37 3 = 0 := hpo.1
    obtain ⟨x, x1, xe, x3e⟩ := hpo.2.1
    rw [x3e rfl] at xe
    have t402 : t < 402 := by omega
    have kl := vk_lt (hK.2.1 t ht).1
    have kt : ¬ A 4 t = (8 : Int32) := by
      rw [(htk t ht).1]
      intro q
      exact ne ((nI_eq (b := 8) (by omega) (by decide)).1 q)
    rw [fX3_tellHeavy_b37]
    simp -implicitDefEqProofs (disch := first | assumption | omega | decide | exact And.intro (by omega) (by omega)) only [cck_0, cr0_0, cr0_1, cr0_2, cr0_3, cg0_4, cp0_4, cg0_5, cp0_5, cck_1, cg1_0, cp1_0, cr1_1, cr1_2, cr1_3, cg1_4, cp1_4, cg1_5, cp1_5, cr1_6, cr1_7, cck_2, cr2_0, cr2_1, cr2_2, cck_3, cr3_0, cr3_1, cg3_2, cp3_2, cg3_3, cp3_3, cg3_4, cp3_4, cg3_5, cp3_5, cg3_6, cp3_6, cg3_7, cp3_7, cg3_8, cp3_8, cck_4, cg4_0, cp4_0, cg4_1, cp4_1, cr4_2, cr4_3, cr4_4, cr4_5, cck_5, cg5_0, cp5_0, cr5_1, cr5_2, cr5_3, cck_6, cg6_0, cp6_0, cg6_1, cp6_1, cck_7, cg7_0, cp7_0, cg7_1, cp7_1, cr7_2, cr7_3, cr7_4, cr7_5, cr7_6, cr7_7, cr7_8, cck_8, cr8_0, cr8_1, cck_9, cr9_0, cr9_1, cr9_2, cr9_3, cg9_4, cp9_4, cck_10, cg10_0, cp10_0, cr10_1, cr10_2, cr10_3, cr10_4, cg10_5, cp10_5, cr10_6, cr10_7, cr10_8, cg10_9, cp10_9, cg10_10, cp10_10, cr10_11, cr10_12, cr10_13, cr10_14, cck_11, cr11_0, cg11_1, cp11_1, cr11_2, cr11_3, cr11_4, cr11_5, cr11_6, cr11_7, cr11_8, cr11_9, cr11_10, cr11_11, cr11_12, cr11_13, cr11_14, ca_30, cs_30, ca_31, cs_31, ca_32, cs_32, ca_33, cs_33, ca_34, cs_34, ca_35, cs_35, ca_36, cs_36, ca_37, cs_37, ca_38, cs_38, ca_39, cs_39, ca_40, cs_40, ca_41, cs_41, ca_42, cs_42, car_20, car_21, car_22, cq11_3, cq11_4, cq3_1, cq0_0, cq0_1, if_true, if_false, Option.bind_some, cb_e, lt_e, nI_1, hs_nar2, nh4, upd_at, vau_at, ca_42_0, cs_42_0, if_neg n4, c33, xe, if_neg kt]
  have stepF : ∀ i fa tp fuel (F A : Nat → Nat → Int32), i ≤ 4 → ¬ fa = 0 → CPo F PL fa tp → fX3_tellHeavy_b37 (fuel + 1) 37 x2 x3 (nI i) (mkC F A B r) = fX3_tellHeavy_b158 37 x2 x3 (mkC F A B r) := by
    intro i fa tp fuel F A hi hf hpo
    have n4 : ¬ (4 : Int32) < nI i := nI_nlt (a := 4) (b := i) (by omega) (by decide)
    have hz : ¬ F 37 3 = 0 := by rw [hpo.1]; exact nI_ne0 (by omega) (by have := hpo.2.2.2; omega)
    rw [fX3_tellHeavy_b37]
    simp -implicitDefEqProofs (disch := first | assumption | omega | decide | exact And.intro (by omega) (by omega)) only [cck_0, cr0_0, cr0_1, cr0_2, cr0_3, cg0_4, cp0_4, cg0_5, cp0_5, cck_1, cg1_0, cp1_0, cr1_1, cr1_2, cr1_3, cg1_4, cp1_4, cg1_5, cp1_5, cr1_6, cr1_7, cck_2, cr2_0, cr2_1, cr2_2, cck_3, cr3_0, cr3_1, cg3_2, cp3_2, cg3_3, cp3_3, cg3_4, cp3_4, cg3_5, cp3_5, cg3_6, cp3_6, cg3_7, cp3_7, cg3_8, cp3_8, cck_4, cg4_0, cp4_0, cg4_1, cp4_1, cr4_2, cr4_3, cr4_4, cr4_5, cck_5, cg5_0, cp5_0, cr5_1, cr5_2, cr5_3, cck_6, cg6_0, cp6_0, cg6_1, cp6_1, cck_7, cg7_0, cp7_0, cg7_1, cp7_1, cr7_2, cr7_3, cr7_4, cr7_5, cr7_6, cr7_7, cr7_8, cck_8, cr8_0, cr8_1, cck_9, cr9_0, cr9_1, cr9_2, cr9_3, cg9_4, cp9_4, cck_10, cg10_0, cp10_0, cr10_1, cr10_2, cr10_3, cr10_4, cg10_5, cp10_5, cr10_6, cr10_7, cr10_8, cg10_9, cp10_9, cg10_10, cp10_10, cr10_11, cr10_12, cr10_13, cr10_14, cck_11, cr11_0, cg11_1, cp11_1, cr11_2, cr11_3, cr11_4, cr11_5, cr11_6, cr11_7, cr11_8, cr11_9, cr11_10, cr11_11, cr11_12, cr11_13, cr11_14, ca_30, cs_30, ca_31, cs_31, ca_32, cs_32, ca_33, cs_33, ca_34, cs_34, ca_35, cs_35, ca_36, cs_36, ca_37, cs_37, ca_38, cs_38, ca_39, cs_39, ca_40, cs_40, ca_41, cs_41, ca_42, cs_42, car_20, car_21, car_22, cq11_3, cq11_4, cq3_1, cq0_0, cq0_1, if_true, if_false, Option.bind_some, cb_e, lt_e, nI_1, hs_nar2, nh4, upd_at, vau_at, ca_42_0, cs_42_0, if_neg n4, if_neg hz]
  have lst : ∀ i t c fuel (F A : Nat → Nat → Int32), i ≤ 4 → t ≤ M → CPo F PL 0 t → F d 5 = nI c → c < t → CTk A B M K V PL → F 37 5 = nI sl → ¬ K t = 8 → ∃ F' A', fX3_tellHeavy_b37 (fuel + 1) 37 x2 x3 (nI i) (mkC F A B r) = some ((), mkC F' A' B r) ∧ CPo F' PL (ls2 K V t).1 (ls2 K V t).2 ∧ CFx d F F' A A' ∧ ((ls2 K V t).1 = 0 → F' d 5 = nI (c + szC [] (exl K V (0, t))) ∧ CBl d c A A' ∧ LayC A' d [] (exl K V (0, t)) c ∧ A' (d + 4) = lwU sl ob x3 (A (d + 4))) := by
    intro i t c fuel F A hi ht hpo h5 hc htk hsl ne
    obtain ⟨F', A', q1, q2, q3, q4⟩ := c_lst (B := B) (PL := PL) (x3 := x3) (s := (0, t)) hK hd hr ht (Nat.zero_le _) hpo h5 (by omega) (fun _ => hc) htk ⟨hsl, hs5⟩ (fun _ => hx)
    refine ⟨F', A', (step i t fuel F A hi ht hpo htk ne).trans q1, q2, q3, fun z => ?_⟩
    obtain ⟨y1, y2, y3, y4, y5⟩ := q4 z
    exact ⟨y1, y2, ⟨y3, y4⟩, y5⟩
  intro k
  induction k with
  | zero =>
    intro t c fuel F A ht hk hpo h5 hc htk hsl hf
    obtain ⟨fuel, rfl⟩ : ∃ q, fuel = q + 1 := ⟨fuel - 1, by omega⟩
    unfold lwS
    by_cases e8 : K t = 8
    · rw [if_pos e8]
      have n4 : ¬ (4 : Int32) < nI (4 - 0) := by decide
      have n4' : nI (4 - 0) = (4 : Int32) := rfl
      have c33 : F 37 3 = 0 := hpo.1
      obtain ⟨x, x1, xe, x3e⟩ := hpo.2.1
      rw [x3e rfl] at xe
      have t402 : t < 402 := by omega
      have kt : A 4 t = (8 : Int32) := by rw [(htk t ht).1, e8]; rfl
      obtain ⟨F1, a1, a2, a3, a4⟩ := c_fail (B := B) (r := r) hK ht hpo htk (n := 2) (by decide) (by decide)
      have a1' : fX3_fail 37 2 (mkC F A B r) = some ((), mkC F1 A B r) := a1
      refine ⟨F1, A, ?_, a2, ⟨fun x q _ => a3 x q, fun x _ => by rw [a3 d (by omega)], a4, fun _ _ _ _ => rfl⟩, fun z => absurd (show (2 : Nat) = 0 from z) (by decide)⟩
      rw [fX3_tellHeavy_b37]
      unfold fX3_tellHeavy_b73
      simp -implicitDefEqProofs (disch := first | assumption | omega | decide | exact And.intro (by omega) (by omega)) only [cck_0, cr0_0, cr0_1, cr0_2, cr0_3, cg0_4, cp0_4, cg0_5, cp0_5, cck_1, cg1_0, cp1_0, cr1_1, cr1_2, cr1_3, cg1_4, cp1_4, cg1_5, cp1_5, cr1_6, cr1_7, cck_2, cr2_0, cr2_1, cr2_2, cck_3, cr3_0, cr3_1, cg3_2, cp3_2, cg3_3, cp3_3, cg3_4, cp3_4, cg3_5, cp3_5, cg3_6, cp3_6, cg3_7, cp3_7, cg3_8, cp3_8, cck_4, cg4_0, cp4_0, cg4_1, cp4_1, cr4_2, cr4_3, cr4_4, cr4_5, cck_5, cg5_0, cp5_0, cr5_1, cr5_2, cr5_3, cck_6, cg6_0, cp6_0, cg6_1, cp6_1, cck_7, cg7_0, cp7_0, cg7_1, cp7_1, cr7_2, cr7_3, cr7_4, cr7_5, cr7_6, cr7_7, cr7_8, cck_8, cr8_0, cr8_1, cck_9, cr9_0, cr9_1, cr9_2, cr9_3, cg9_4, cp9_4, cck_10, cg10_0, cp10_0, cr10_1, cr10_2, cr10_3, cr10_4, cg10_5, cp10_5, cr10_6, cr10_7, cr10_8, cg10_9, cp10_9, cg10_10, cp10_10, cr10_11, cr10_12, cr10_13, cr10_14, cck_11, cr11_0, cg11_1, cp11_1, cr11_2, cr11_3, cr11_4, cr11_5, cr11_6, cr11_7, cr11_8, cr11_9, cr11_10, cr11_11, cr11_12, cr11_13, cr11_14, ca_30, cs_30, ca_31, cs_31, ca_32, cs_32, ca_33, cs_33, ca_34, cs_34, ca_35, cs_35, ca_36, cs_36, ca_37, cs_37, ca_38, cs_38, ca_39, cs_39, ca_40, cs_40, ca_41, cs_41, ca_42, cs_42, car_20, car_21, car_22, cq11_3, cq11_4, cq3_1, cq0_0, cq0_1, if_true, if_false, Option.bind_some, cb_e, lt_e, nI_1, hs_nar2, nh4, upd_at, vau_at, ca_42_0, cs_42_0, if_neg n4, c33, xe, kt, if_pos n4', a1']
    · rw [if_neg e8]
      exact lst 4 t c fuel F A (by omega) ht hpo h5 hc htk hsl e8
  | succ k ih =>
    intro t c fuel F A ht hk hpo h5 hc htk hsl hf
    obtain ⟨fuel, rfl⟩ : ∃ q, fuel = q + 1 := ⟨fuel - 1, by omega⟩
    unfold lwS
    by_cases e8 : K t = 8
    · rw [if_pos e8]
      obtain ⟨F1, A1, c1, b1, b2, b3, b4, ⟨b5, b6⟩, b7⟩ := c_brn (B := B) (x2 := x2) (x3 := x3) (fuel := fuel) (i := 4 - (k + 1)) hK hd hr ht hpo h5 (by omega) htk e8 (by omega)
      have ei : 4 - (k + 1) + 1 = 4 - k := by omega
      rw [ei] at b1
      have m7 := (bs_ok hK ht).2.2.2.2.2.2.1
      have hsl1 : F1 37 5 = nI sl := by rw [b3.2.2.1 5 (by decide) (by decide) (by decide)]; exact hsl
      by_cases z : (bs7 K V t).1 = 0
      · rw [if_pos z]
        obtain ⟨e1, g1, g2, g3, g4, g5, g6, g7⟩ := b7 z
        have b2' := b2
        rw [z] at b2'
        obtain ⟨F2, A2, i1, i2, i3, i4⟩ := ih (bs7 K V t).2 c1 fuel F1 A1 m7.1 (by omega) b2' b5 (by omega) b4 hsl1 (by omega)
        refine ⟨F2, A2, b1.trans i1, i2, (CFx.of b3).tr i3, fun y => ?_⟩
        obtain ⟨y1, y2, y3, y4⟩ := i4 y
        have bl : ∀ j, j < c1 → A2 (d + 5) j = A1 (d + 5) j ∧ A2 (d + 6) j = A1 (d + 6) j := y2
        refine ⟨?_, fun j hj => ?_, ⟨g3.eq (fun j _ h2 => bl j (by omega)), g4.eq (fun j _ h2 => bl j (by omega)), ⟨?_, ?_⟩, g6.eq (fun j _ h2 => bl j (by omega)), ?_, ?_⟩, ?_⟩
        · rw [y1, e1]
          show _ = nI (c + ((brL K V t).1.length + (brL K V t).2.1.length + 1 + (brL K V t).2.2.length + 1 + szC (lwS K V k (bs7 K V t).2).2.1 (lwS K V k (bs7 K V t).2).2.2))
          congr 1
          omega
        · rw [(bl j (by omega)).1, (bl j (by omega)).2]
          exact g2 j hj
        · rw [(bl _ (by omega)).1]
          exact g5.1
        · rw [(bl _ (by omega)).2, g5.2, e1]
        · rw [(bl _ (by omega)).1]
          exact g7
        · rw [← e1]
          exact y3
        · rw [y4, b3.2.2.2 (d + 4) (by omega) (by omega)]
      · rw [if_neg z]
        obtain ⟨fuel, rfl⟩ : ∃ q, fuel = q + 1 := ⟨fuel - 1, by omega⟩
        have st := stepF (4 - k) _ _ fuel F1 A1 (by omega) z b2
        obtain ⟨F', A', q1, q2, q3, q4⟩ := c_lst (B := B) (PL := PL) (x2 := x2) (x3 := x3) (sl := sl) (ob := ob) (s := bs7 K V t) hK hd hr m7.1 m7.2 b2 b5 b6 (fun q => absurd q z) b4 ⟨hsl1, hs5⟩ (fun q => absurd q z)
        rw [exs_F z, stp_F z] at q2
        exact ⟨F', A', b1.trans (st.trans q1), q2, (CFx.of b3).tr q3, fun y => absurd y z⟩
    · rw [if_neg e8]
      exact lst (4 - (k + 1)) t c fuel F A (by omega) ht hpo h5 hc htk hsl e8
end C9b
