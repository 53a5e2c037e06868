/-! ===== a law is told: what its tokens tell ===== -/
section L9a
variable (K V : Nat → Nat)
/-- past an expression -/
def exs (s : Nat × Nat) : Nat × Nat := if s.1 = 0 then ((pD K V 8 0 s.2).1, (pD K V 8 0 s.2).2.1) else s
def exl (s : Nat × Nat) : List Op := (pD K V 8 0 s.2).2.2
def bs1 (t : Nat) : Nat × Nat := stp K 8 (0, t)
def bs2 (t : Nat) : Nat × Nat := exs K V (bs1 K t)
def bs3 (t : Nat) : Nat × Nat := stp K 60 (bs2 K V t)
def bs4 (t : Nat) : Nat × Nat := exs K V (bs3 K V t)
def bs5 (t : Nat) : Nat × Nat := stp K 9 (bs4 K V t)
def bs6 (t : Nat) : Nat × Nat := exs K V (bs5 K V t)
def bs7 (t : Nat) : Nat × Nat := stp K 10 (bs6 K V t)
def brL (t : Nat) : List Op × List Op × List Op := (exl K V (bs1 K t), exl K V (bs3 K V t), exl K V (bs5 K V t))
def ls1 (t : Nat) : Nat × Nat := exs K V (0, t)
def ls2 (t : Nat) : Nat × Nat := stp K 59 (ls1 K V t)
/-- branches, k more of them, and the last term -/
def lwS : Nat → Nat → (Nat × Nat) × Bran
  | 0, t => if K t = 8 then ((2, t), ([], [])) else (ls2 K V t, ([], exl K V (0, t)))
  | k + 1, t => if K t = 8 then (if (bs7 K V t).1 = 0 then ((lwS k (bs7 K V t).2).1, (brL K V t :: (lwS k (bs7 K V t).2).2.1, (lwS k (bs7 K V t).2).2.2)) else (bs7 K V t, ([], []))) else (ls2 K V t, ([], exl K V (0, t)))
end L9a
section M9a
variable {M : Nat} {K V : Nat → Nat}
theorem exs_ok (hK : TkK M K V) {s : Nat × Nat} (hs : s.2 ≤ M) (h2 : s.1 ≤ 2) : (s.2 ≤ (exs K V s).2 ∧ (exs K V s).2 ≤ M ∧ (exs K V s).1 ≤ 2) ∧ ((exs K V s).1 = 0 → s.1 = 0 ∧ s.2 + (exl K V s).length ≤ (exs K V s).2 ∧ s.2 < (exs K V s).2 ∧ GoodL 15 (exl K V s)) := by
  unfold exs exl
  by_cases c : s.1 = 0
  · rw [if_pos c]
    obtain ⟨q1, q2⟩ := pD_ok hK 8 0 (by decide) 0 s.2 (by decide) (by decide) hs
    exact ⟨q1, fun z => ⟨c, q2 z⟩⟩
  · rw [if_neg c]
    exact ⟨⟨Nat.le_refl _, hs, h2⟩, fun z => absurd z c⟩
theorem exs_F {s : Nat × Nat} (h : ¬ s.1 = 0) : exs K V s = s := by
  unfold exs
  rw [if_neg h]
theorem bs_ok (hK : TkK M K V) {t : Nat} (ht : t ≤ M) : ((bs1 K t).2 ≤ M ∧ (bs1 K t).1 ≤ 2) ∧ ((bs2 K V t).2 ≤ M ∧ (bs2 K V t).1 ≤ 2) ∧ ((bs3 K V t).2 ≤ M ∧ (bs3 K V t).1 ≤ 2) ∧ ((bs4 K V t).2 ≤ M ∧ (bs4 K V t).1 ≤ 2) ∧ ((bs5 K V t).2 ≤ M ∧ (bs5 K V t).1 ≤ 2) ∧ ((bs6 K V t).2 ≤ M ∧ (bs6 K V t).1 ≤ 2) ∧ ((bs7 K V t).2 ≤ M ∧ (bs7 K V t).1 ≤ 2) ∧ ((bs1 K t).1 = 0 → (bs1 K t).2 = t + 1) ∧ ((bs2 K V t).1 = 0 → (bs1 K t).1 = 0 ∧ (bs1 K t).2 + (brL K V t).1.length ≤ (bs2 K V t).2 ∧ (bs1 K t).2 < (bs2 K V t).2 ∧ GoodL 15 (brL K V t).1) ∧ ((bs3 K V t).1 = 0 → (bs2 K V t).1 = 0 ∧ (bs3 K V t).2 = (bs2 K V t).2 + 1) ∧ ((bs4 K V t).1 = 0 → (bs3 K V t).1 = 0 ∧ (bs3 K V t).2 + (brL K V t).2.1.length ≤ (bs4 K V t).2 ∧ (bs3 K V t).2 < (bs4 K V t).2 ∧ GoodL 15 (brL K V t).2.1) ∧ ((bs5 K V t).1 = 0 → (bs4 K V t).1 = 0 ∧ (bs5 K V t).2 = (bs4 K V t).2 + 1) ∧ ((bs6 K V t).1 = 0 → (bs5 K V t).1 = 0 ∧ (bs5 K V t).2 + (brL K V t).2.2.length ≤ (bs6 K V t).2 ∧ (bs5 K V t).2 < (bs6 K V t).2 ∧ GoodL 15 (brL K V t).2.2) ∧ ((bs7 K V t).1 = 0 → (bs6 K V t).1 = 0 ∧ (bs7 K V t).2 = (bs6 K V t).2 + 1) := by
  obtain ⟨⟨a1, a2, a3⟩, a4⟩ := stp_ok hK (k := 8) (s := (0, t)) (by decide) ht (Nat.zero_le _)
  obtain ⟨⟨b1, b2, b3⟩, b4⟩ := exs_ok hK (s := bs1 K t) a2 a3
  obtain ⟨⟨c1, c2, c3⟩, c4⟩ := stp_ok hK (k := 60) (s := bs2 K V t) (by decide) b2 b3
  obtain ⟨⟨d1, d2, d3⟩, d4⟩ := exs_ok hK (s := bs3 K V t) c2 c3
  obtain ⟨⟨e1, e2, e3⟩, e4⟩ := stp_ok hK (k := 9) (s := bs4 K V t) (by decide) d2 d3
  obtain ⟨⟨f1, f2, f3⟩, f4⟩ := exs_ok hK (s := bs5 K V t) e2 e3
  obtain ⟨⟨g1, g2, g3⟩, g4⟩ := stp_ok hK (k := 10) (s := bs6 K V t) (by decide) f2 f3
  exact ⟨⟨a2, a3⟩, ⟨b2, b3⟩, ⟨c2, c3⟩, ⟨d2, d3⟩, ⟨e2, e3⟩, ⟨f2, f3⟩, ⟨g2, g3⟩, fun q => (a4 q).2.1, b4, fun q => ⟨(c4 q).1, (c4 q).2.1⟩, d4, fun q => ⟨(e4 q).1, (e4 q).2.1⟩, f4, fun q => ⟨(g4 q).1, (g4 q).2.1⟩⟩
theorem ls_ok (hK : TkK M K V) {t : Nat} (ht : t ≤ M) : ((ls1 K V t).2 ≤ M ∧ (ls1 K V t).1 ≤ 2) ∧ ((ls2 K V t).2 ≤ M ∧ (ls2 K V t).1 ≤ 2) ∧ ((ls1 K V t).1 = 0 → t + (exl K V (0, t)).length ≤ (ls1 K V t).2 ∧ t < (ls1 K V t).2 ∧ GoodL 15 (exl K V (0, t))) ∧ ((ls2 K V t).1 = 0 → (ls1 K V t).1 = 0 ∧ (ls2 K V t).2 = (ls1 K V t).2 + 1) := by
  obtain ⟨⟨b1, b2, b3⟩, b4⟩ := exs_ok hK (s := (0, t)) ht (Nat.zero_le _)
  obtain ⟨⟨c1, c2, c3⟩, c4⟩ := stp_ok hK (k := 59) (s := ls1 K V t) (by decide) b2 b3
  exact ⟨⟨b2, b3⟩, ⟨c2, c3⟩, fun q => (b4 q).2, fun q => ⟨(c4 q).1, (c4 q).2.1⟩⟩
theorem lwS_ok (hK : TkK M K V) : ∀ k t, t ≤ M → ((lwS K V k t).1.2 ≤ M ∧ (lwS K V k t).1.1 ≤ 2) ∧ ((lwS K V k t).1.1 = 0 → OkB (lwS K V k t).2.1 (lwS K V k t).2.2 ∧ t + szC (lwS K V k t).2.1 (lwS K V k t).2.2 ≤ (lwS K V k t).1.2 ∧ t + 4 * (lwS K V k t).2.1.length + 2 ≤ (lwS K V k t).1.2 ∧ (lwS K V k t).2.1.length ≤ k) := by
  have last : ∀ t, t ≤ M → (ls2 K V t).1 = 0 → OkB [] (exl K V (0, t)) ∧ t + szC [] (exl K V (0, t)) ≤ (ls2 K V t).2 ∧ t + 4 * (([] : List (List Op × List Op × List Op)).length) + 2 ≤ (ls2 K V t).2 := by
    intro t ht z
    obtain ⟨_, _, q3, q4⟩ := ls_ok hK ht
    obtain ⟨z1, z2⟩ := q4 z
    obtain ⟨y1, y2, y3⟩ := q3 z1
    refine ⟨⟨fun x hx => absurd hx (List.not_mem_nil), y3⟩, ?_, ?_⟩
    · unfold szC
      omega
    · rw [List.length_nil]
      omega
  intro k
  induction k with
  | zero =>
    intro t ht
    unfold lwS
    by_cases c : K t = 8
    · rw [if_pos c]
      exact ⟨⟨ht, Nat.le_refl _⟩, fun z => absurd (show (2 : Nat) = 0 from z) (by decide)⟩
    · rw [if_neg c]
      obtain ⟨_, q2, _⟩ := ls_ok hK ht
      exact ⟨q2, fun z => ⟨(last t ht z).1, (last t ht z).2.1, (last t ht z).2.2, Nat.le_refl _⟩⟩
  | succ k ih =>
    intro t ht
    unfold lwS
    by_cases c : K t = 8
    · rw [if_pos c]
      obtain ⟨_, _, _, _, _, _, ⟨m1, m2⟩, b1, b2, b3, b4, b5, b6, b7⟩ := bs_ok hK ht
      by_cases z : (bs7 K V t).1 = 0
      · rw [if_pos z]
        obtain ⟨i1, i2⟩ := ih (bs7 K V t).2 m1
        refine ⟨i1, fun y => ?_⟩
        obtain ⟨i3, i4, i5, i6⟩ := i2 y
        obtain ⟨z6, z6'⟩ := b7 z
        obtain ⟨z5, g5, g5', g5''⟩ := b6 z6
        obtain ⟨z4, z4'⟩ := b5 z5
        obtain ⟨z3, g3, g3', g3''⟩ := b4 z4
        obtain ⟨z2, z2'⟩ := b3 z3
        obtain ⟨z1, g1, g1', g1''⟩ := b2 z2
        have z0 := b1 z1
        refine ⟨⟨fun x hx => ?_, i3.2⟩, ?_, ?_, ?_⟩
        · rcases List.mem_cons.1 hx with hx | hx
          · rw [hx]
            exact ⟨g1'', g3'', g5''⟩
          · exact i3.1 x hx
        · show t + ((brL K V t).1.length + (brL K V t).2.1.length + 1 + (brL K V t).2.2.length + 1 + szC (lwS K V k (bs7 K V t).2).2.1 (lwS K V k (bs7 K V t).2).2.2) ≤ (lwS K V k (bs7 K V t).2).1.2
          omega
        · show t + 4 * (brL K V t :: (lwS K V k (bs7 K V t).2).2.1).length + 2 ≤ (lwS K V k (bs7 K V t).2).1.2
          rw [List.length_cons]
          omega
        · show (brL K V t :: (lwS K V k (bs7 K V t).2).2.1).length ≤ k + 1
          rw [List.length_cons]
          omega
      · rw [if_neg z]
        exact ⟨⟨m1, m2⟩, fun y => absurd y z⟩
    · rw [if_neg c]
      obtain ⟨_, q2, _⟩ := ls_ok hK ht
      exact ⟨q2, fun z => ⟨(last t ht z).1, (last t ht z).2.1, (last t ht z).2.2, Nat.zero_le _⟩⟩
theorem szL_le : ∀ (Br : List (List Op × List Op × List Op)) (la : List Op), szL Br la ≤ szC Br la
  | [], la => by unfold szL szC; omega
  | x :: Br, la => by
    have := szL_le Br la
    unfold szL szC
    omega
end M9a
/-! the class -/
section C9a
variable {d M : Nat} {K V PL : Nat → Nat} {B : Nat → Nat → Int64} {r : Nat → Nat}
theorem c_ex (hK : TkK M K V) (hd : d = 7 ∨ d = 22) (hr : r 2 = d) {s : Nat × Nat} {c : Nat} {F A : Nat → Nat → Int32} (hs : s.2 ≤ M) (hpo : CPo F PL s.1 s.2) (h5 : F d 5 = nI c) (hc4 : c ≤ 400) (hc : s.1 = 0 → c ≤ s.2) (htk : CTk A B M K V PL) : ∃ F' A' c', fX3_expression 37 0 (mkC F A B r) = some ((), mkC F' A' B r) ∧ CPo F' PL (exs K V s).1 (exs K V s).2 ∧ CTr d c F F' A A' ∧ CTk A' B M K V PL ∧ (F' d 5 = nI c' ∧ c ≤ c' ∧ c' ≤ 400) ∧ ((exs K V s).1 = 0 → c' = c + (exl K V s).length ∧ SegC A' d c (exl K V s)) := by
  unfold exs exl
  by_cases c0 : s.1 = 0
  · rw [if_pos c0]
    have hpo' := hpo
    rw [c0] at hpo'
    obtain ⟨F', A', z1, z2, z3, z4⟩ := c_expr (B := B) hK hd hr hs hpo' h5 (hc c0) htk
    obtain ⟨c', y1, y2, y3⟩ := z3.2.2
    refine ⟨F', A', c', z1, z2, z3, htk.fr hd z3.1, ⟨y1, y2, y3⟩, fun q => ?_⟩
    obtain ⟨z5, z6⟩ := z4 q
    refine ⟨?_, z6⟩
    obtain ⟨_, q2⟩ := pD_ok hK 8 0 (by decide) 0 s.2 (by decide) (by decide) hs
    have b1 := (q2 q).1
    have b2 := (pD_ok hK 8 0 (by decide) 0 s.2 (by decide) (by decide) hs).1.2.1
    have hM := hK.1
    have hcs := hc c0
    rw [y1] at z5
    exact (nI_eq (by omega) (by omega)).1 z5
  · rw [if_neg c0]
    obtain ⟨F', A', z1, z2, z3⟩ := c_exprF (B := B) hK hd hr c0 hpo h5 hc4 htk
    obtain ⟨c', y1, y2, y3⟩ := z3.2.2
    exact ⟨F', A', c', z1, z2, z3, htk.fr hd z3.1, ⟨y1, y2, y3⟩, fun q => absurd q c0⟩
theorem c_tk (hK : TkK M K V) (hd : d = 7 ∨ d = 22) {k : Nat} {s : Nat × Nat} {c : Nat} {F A : Nat → Nat → Int32} (hs : s.2 ≤ M) (h : CPo F PL s.1 s.2) (h5 : F d 5 = nI c) (hc4 : c ≤ 400) (hk : CTk A B M K V PL) (hkk : k < 256) (hk18 : ¬ k = 18) : ∃ F' x, fX3_take 37 (nI k) (mkC F A B r) = some (x, mkC F' A B r) ∧ CPo F' PL (stp K k s).1 (stp K k s).2 ∧ CTr d c F F' A A ∧ F' d 5 = nI c := by
  obtain ⟨F', x, z1, z2, z3, z4, _⟩ := c_stp (Bc := B) (r := r) hK hs h hk hkk hk18
  exact ⟨F', x, z1, z2, CTr.own hd h5 hc4 z3 z4, by rw [z3 d (by omega)]; exact h5⟩
theorem c_em {F A : Nat → Nat → Int32} {c : Nat} (hd : d = 7 ∨ d = 22) {s : Nat × Nat} (hpo : CPo F PL s.1 s.2) (h5 : F d 5 = nI c) (hc : c ≤ 400) (htk : CTk A B M K V PL) (op ar : Int32) : ∃ v F' A' c', fX10_emit d op ar (mkC F A B r) = some (v, mkC F' A' B r) ∧ CPo F' PL s.1 s.2 ∧ CTr d c F F' A A' ∧ CTk A' B M K V PL ∧ (F' d 5 = nI c' ∧ c ≤ c' ∧ c' ≤ 400) ∧ (c < 400 → v = nI c ∧ c' = c + 1 ∧ A' (d + 5) = upd (A (d + 5)) c op ∧ A' (d + 6) = upd (A (d + 6)) c ar) := by
  obtain ⟨v, F', A', z1, z2, z3, z4⟩ := c_emit (B := B) (r := r) (F := F) (A := A) hd h5 hc op ar
  obtain ⟨c', y1, y2, y3⟩ := z3.2.2
  refine ⟨v, F', A', c', z1, hpo.eq z2, z3, htk.fr hd z3.1, ⟨y1, y2, y3⟩, fun q => ?_⟩
  obtain ⟨w1, w2, w3, w4⟩ := z4 q
  rw [y1] at w2
  exact ⟨w1, (nI_eq (by omega) (by omega)).1 w2, w3, w4⟩
theorem c_aim {F A : Nat → Nat → Int32} {c : Nat} (hd : d = 7 ∨ d = 22) (h5 : F d 5 = nI c) (hc : c ≤ 400) (v : Int32) : ∃ A', fX10_aim d v (mkC F A B r) = some ((), mkC F A' B r) ∧ (∀ x, ¬ x = d + 6 → A' x = A x) ∧ ∀ k, v = nI k → k < c → A' (d + 6) = upd (A (d + 6)) k (nI c) := by
  have kd : c_kd d = 10 := by rcases hd with h | h <;> subst h <;> rfl
  have kd6 : c_kd (d + 6) = 36 := by rcases hd with h | h <;> subst h <;> rfl
  by_cases c0 : v < 0
  · refine ⟨A, ?_, fun _ _ => rfl, fun k e hk => ?_⟩
    · unfold fX10_aim
      simp -implicitDefEqProofs (disch := first | assumption | omega | decide | exact And.intro (by omega) (by omega)) only [cck_0, cr0_0, cr0_1, cr0_2, cr0_3, cg0_4, cp0_4, cg0_5, cp0_5, cck_1, cg1_0, cp1_0, cr1_1, cr1_2, cr1_3, cg1_4, cp1_4, cg1_5, cp1_5, cr1_6, cr1_7, cck_2, cr2_0, cr2_1, cr2_2, cck_3, cr3_0, cr3_1, cg3_2, cp3_2, cg3_3, cp3_3, cg3_4, cp3_4, cg3_5, cp3_5, cg3_6, cp3_6, cg3_7, cp3_7, cg3_8, cp3_8, cck_4, cg4_0, cp4_0, cg4_1, cp4_1, cr4_2, cr4_3, cr4_4, cr4_5, cck_5, cg5_0, cp5_0, cr5_1, cr5_2, cr5_3, cck_6, cg6_0, cp6_0, cg6_1, cp6_1, cck_7, cg7_0, cp7_0, cg7_1, cp7_1, cr7_2, cr7_3, cr7_4, cr7_5, cr7_6, cr7_7, cr7_8, cck_8, cr8_0, cr8_1, cck_9, cr9_0, cr9_1, cr9_2, cr9_3, cg9_4, cp9_4, cck_10, cg10_0, cp10_0, cr10_1, cr10_2, cr10_3, cr10_4, cg10_5, cp10_5, cr10_6, cr10_7, cr10_8, cg10_9, cp10_9, cg10_10, cp10_10, cr10_11, cr10_12, cr10_13, cr10_14, cck_11, cr11_0, cg11_1, cp11_1, cr11_2, cr11_3, cr11_4, cr11_5, cr11_6, cr11_7, cr11_8, cr11_9, cr11_10, cr11_11, cr11_12, cr11_13, cr11_14, ca_30, cs_30, ca_31, cs_31, ca_32, cs_32, ca_33, cs_33, ca_34, cs_34, ca_35, cs_35, ca_36, cs_36, ca_37, cs_37, ca_38, cs_38, ca_39, cs_39, ca_40, cs_40, ca_41, cs_41, ca_42, cs_42, car_20, car_21, car_22, cq11_3, cq11_4, cq3_1, cq0_0, cq0_1, if_true, if_false, Option.bind_some, cb_e, lt_e, nI_1, hs_nar2, nh4, upd_at, vau_at, ca_42_0, cs_42_0, if_pos c0]
    · rw [e] at c0
      exact absurd c0 (nI_pos (by omega))
  · by_cases c1 : nI c ≤ v
    · refine ⟨A, ?_, fun _ _ => rfl, fun k e hk => ?_⟩
      · unfold fX10_aim
        simp -implicitDefEqProofs (disch := first | assumption | omega | decide | exact And.intro (by omega) (by omega)) only [cck_0, cr0_0, cr0_1, cr0_2, cr0_3, cg0_4, cp0_4, cg0_5, cp0_5, cck_1, cg1_0, cp1_0, cr1_1, cr1_2, cr1_3, cg1_4, cp1_4, cg1_5, cp1_5, cr1_6, cr1_7, cck_2, cr2_0, cr2_1, cr2_2, cck_3, cr3_0, cr3_1, cg3_2, cp3_2, cg3_3, cp3_3, cg3_4, cp3_4, cg3_5, cp3_5, cg3_6, cp3_6, cg3_7, cp3_7, cg3_8, cp3_8, cck_4, cg4_0, cp4_0, cg4_1, cp4_1, cr4_2, cr4_3, cr4_4, cr4_5, cck_5, cg5_0, cp5_0, cr5_1, cr5_2, cr5_3, cck_6, cg6_0, cp6_0, cg6_1, cp6_1, cck_7, cg7_0, cp7_0, cg7_1, cp7_1, cr7_2, cr7_3, cr7_4, cr7_5, cr7_6, cr7_7, cr7_8, cck_8, cr8_0, cr8_1, cck_9, cr9_0, cr9_1, cr9_2, cr9_3, cg9_4, cp9_4, cck_10, cg10_0, cp10_0, cr10_1, cr10_2, cr10_3, cr10_4, cg10_5, cp10_5, cr10_6, cr10_7, cr10_8, cg10_9, cp10_9, cg10_10, cp10_10, cr10_11, cr10_12, cr10_13, cr10_14, cck_11, cr11_0, cg11_1, cp11_1, cr11_2, cr11_3, cr11_4, cr11_5, cr11_6, cr11_7, cr11_8, cr11_9, cr11_10, cr11_11, cr11_12, cr11_13, cr11_14, ca_30, cs_30, ca_31, cs_31, ca_32, cs_32, ca_33, cs_33, ca_34, cs_34, ca_35, cs_35, ca_36, cs_36, ca_37, cs_37, ca_38, cs_38, ca_39, cs_39, ca_40, cs_40, ca_41, cs_41, ca_42, cs_42, car_20, car_21, car_22, cq11_3, cq11_4, cq3_1, cq0_0, cq0_1, if_true, if_false, Option.bind_some, cb_e, lt_e, nI_1, hs_nar2, nh4, upd_at, vau_at, ca_42_0, cs_42_0, if_neg c0, h5, if_pos c1]
      · rw [e] at c1
        exact absurd c1 (nI_ge (by omega) (by omega))
    · obtain ⟨a, a1, a2⟩ := iI_of v
      have a0 : 0 ≤ a := by
        rw [a2, show (0 : Int32) = iI 0 from rfl, iI_lt a1 ⟨by decide, by decide⟩] at c0
        omega
      have ev : v = nI a.toNat := by rw [a2, iI_toNat a0]
      have lt : a.toNat < c := by
        rw [ev] at c1
        have : ¬ c ≤ a.toNat := fun q => c1 (nI_le q (by omega))
        omega
      have l400 : a.toNat < 400 := by omega
      subst ev
      refine ⟨va_up A (d + 6) (upd (A (d + 6)) a.toNat (nI c)), ?_, fun x hx => vau_ne hx, fun k e hk => ?_⟩
      · unfold fX10_aim
        simp -implicitDefEqProofs (disch := first | assumption | omega | decide | exact And.intro (by omega) (by omega)) only [cck_0, cr0_0, cr0_1, cr0_2, cr0_3, cg0_4, cp0_4, cg0_5, cp0_5, cck_1, cg1_0, cp1_0, cr1_1, cr1_2, cr1_3, cg1_4, cp1_4, cg1_5, cp1_5, cr1_6, cr1_7, cck_2, cr2_0, cr2_1, cr2_2, cck_3, cr3_0, cr3_1, cg3_2, cp3_2, cg3_3, cp3_3, cg3_4, cp3_4, cg3_5, cp3_5, cg3_6, cp3_6, cg3_7, cp3_7, cg3_8, cp3_8, cck_4, cg4_0, cp4_0, cg4_1, cp4_1, cr4_2, cr4_3, cr4_4, cr4_5, cck_5, cg5_0, cp5_0, cr5_1, cr5_2, cr5_3, cck_6, cg6_0, cp6_0, cg6_1, cp6_1, cck_7, cg7_0, cp7_0, cg7_1, cp7_1, cr7_2, cr7_3, cr7_4, cr7_5, cr7_6, cr7_7, cr7_8, cck_8, cr8_0, cr8_1, cck_9, cr9_0, cr9_1, cr9_2, cr9_3, cg9_4, cp9_4, cck_10, cg10_0, cp10_0, cr10_1, cr10_2, cr10_3, cr10_4, cg10_5, cp10_5, cr10_6, cr10_7, cr10_8, cg10_9, cp10_9, cg10_10, cp10_10, cr10_11, cr10_12, cr10_13, cr10_14, cck_11, cr11_0, cg11_1, cp11_1, cr11_2, cr11_3, cr11_4, cr11_5, cr11_6, cr11_7, cr11_8, cr11_9, cr11_10, cr11_11, cr11_12, cr11_13, cr11_14, ca_30, cs_30, ca_31, cs_31, ca_32, cs_32, ca_33, cs_33, ca_34, cs_34, ca_35, cs_35, ca_36, cs_36, ca_37, cs_37, ca_38, cs_38, ca_39, cs_39, ca_40, cs_40, ca_41, cs_41, ca_42, cs_42, car_20, car_21, car_22, cq11_3, cq11_4, cq3_1, cq0_0, cq0_1, if_true, if_false, Option.bind_some, cb_e, lt_e, nI_1, hs_nar2, nh4, upd_at, vau_at, ca_42_0, cs_42_0, if_neg c0, h5, if_neg c1]
      · rw [vau_at, (nI_eq (by omega) (by omega)).1 e]
end C9a
