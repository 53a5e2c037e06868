/-! ===== lay, lift, move, undo: the calls ===== -/
theorem pig : ∀ (n m : Nat) (f : Nat → Nat), (∀ i, i < n → f i < m) → (∀ i j, i < n → j < n → f i = f j → i = j) → n ≤ m
  | 0, m, f, _, _ => Nat.zero_le _
  | n + 1, m, f, h1, h2 => by
    have hm := h1 n (by omega)
    have := pig n (m - 1) (fun i => if f i = m - 1 then f n else f i) (fun i hi => by
      have a1 := h1 i (by omega)
      by_cases c : f i = m - 1
      · rw [if_pos c]
        have : ¬ f n = m - 1 := fun q => by have := h2 i n (by omega) (by omega) (by rw [c, q]); omega
        omega
      · rw [if_neg c]; omega) (fun i j hi hj hq => by
      by_cases c : f i = m - 1
      · by_cases c' : f j = m - 1
        · exact h2 i j (by omega) (by omega) (by rw [c, c'])
        · rw [if_pos c, if_neg c'] at hq
          have := h2 n j (by omega) (by omega) hq
          omega
      · by_cases c' : f j = m - 1
        · rw [if_neg c, if_pos c'] at hq
          have := h2 i n (by omega) (by omega) hq
          omega
        · rw [if_neg c, if_neg c'] at hq
          exact h2 i j (by omega) (by omega) hq)
    omega
theorem apPut_good {nb : Nat} {P : AP} {b : Nat} {p : Int} {g : Int32} (h : GoodP nb P) (hnb : nb ≤ 6) (hb : b < nb) (hn : ∀ i, i < P.1 → ¬ pB P i = b) (hp : -999 ≤ p ∧ p ≤ 999) (hg : g = 0 ∨ g = 1) : GoodP nb (apPut P b p g) := by
  have e1 : ∀ i, (apPut P b p g).2.1 i = if i = P.1 then b else pB P i := fun _ => rfl
  have e2 : ∀ i, (apPut P b p g).2.2.1 i = if i = P.1 then p else pP P i := fun _ => rfl
  have e3 : ∀ i, (apPut P b p g).2.2.2 i = if i = P.1 then g else pG P i := fun _ => rfl
  have e0 : (apPut P b p g).1 = P.1 + 1 := rfl
  have k1 : ∀ i, i < P.1 + 1 → (if i = P.1 then b else pB P i) < nb := fun i hi => by
    by_cases c : i = P.1
    · rw [if_pos c]; exact hb
    · rw [if_neg c]; exact h.2.1 i (by omega)
  have k2 : ∀ i j, i < P.1 + 1 → j < P.1 + 1 → (if i = P.1 then b else pB P i) = (if j = P.1 then b else pB P j) → i = j := fun i j hi hj q => by
    by_cases c : i = P.1
    · by_cases c' : j = P.1
      · omega
      · rw [if_pos c, if_neg c'] at q
        exact absurd q.symm (hn j (by omega))
    · by_cases c' : j = P.1
      · rw [if_neg c, if_pos c'] at q
        exact absurd q (hn i (by omega))
      · rw [if_neg c, if_neg c'] at q
        exact h.2.2.1 i j (by omega) (by omega) q
  have k3 := pig (P.1 + 1) nb (fun i => if i = P.1 then b else pB P i) k1 k2
  refine ⟨by omega, fun i hi => by rw [e1]; exact k1 i hi, fun i j hi hj => by rw [e1, e1]; exact k2 i j hi hj, fun i hi => ?_, fun i hi => ?_⟩
  · rw [e2]
    by_cases c : i = P.1
    · rw [if_pos c]; exact hp
    · rw [if_neg c]; exact h.2.2.2.1 i (by omega)
  · rw [e3]
    by_cases c : i = P.1
    · rw [if_pos c]; exact hg
    · rw [if_neg c]; exact h.2.2.2.2 i (by omega)
theorem apDrop_good {nb : Nat} {P : AP} (h : GoodP nb P) : GoodP nb (apDrop P) := by
  have e0 : (apDrop P).1 = P.1 - 1 := rfl
  have h1 := h.1
  exact ⟨by omega, fun i hi => h.2.1 i (by omega), fun i j hi hj => h.2.2.1 i j (by omega) (by omega), fun i hi => h.2.2.2.1 i (by omega), fun i hi => h.2.2.2.2 i (by omega)⟩
def APeq (P Q : AP) : Prop := P.1 = Q.1 ∧ ∀ i, i < P.1 → P.2.1 i = Q.2.1 i ∧ P.2.2.1 i = Q.2.2.1 i ∧ P.2.2.2 i = Q.2.2.2 i
theorem CPile.ap {F A : Nat → Nat → Int32} {h : Nat} {P Q : AP} (q : CPile F A h P) (e : APeq P Q) : CPile F A h Q := by
  refine ⟨by rw [← e.1]; exact q.1, fun i hi => ?_⟩
  have hi2 : i < P.1 := by rw [e.1]; exact hi
  obtain ⟨a1, a2, a3⟩ := e.2 i hi2
  rw [← a1, ← a2, ← a3]
  exact q.2 i hi2
section ST4
variable {F F1 : Nat → Int32} {A A1 : Nat → Nat → Int32} {B B1 : Nat → Nat → Int64} {Fc Fc2 Ac Ac2 : Nat → Nat → Int32} {Bc : Nat → Nat → Int64} {rc : Nat → Nat} {t lv : Nat} {T : TD} {u w : Nat} {ps : Nat → AP} {n7 : Nat} {sp : Nat → AP}
theorem rel_push {P : AP} {k x y g : Int32} (hT : Tape F A Fc Ac) (hC : Core F A B Fc Ac Bc rc t lv T u w ps n7 sp) (hm : MC F F1 A A1 B B1) (hrow : MPile A1 31 0 P) (hgood : GoodP (tNb T) P) (f0 : Fc2 49 0 = nI (min (u + 1) 50)) (f1 : Fc2 49 1 = nI ((w + 1) % 50)) (f2 : ∀ c, ¬ c = 49 → ¬ c = 38 → Fc2 c = Fc c) (a0 : Ac2 50 = upd (Ac 50) ((w + 1) % 50) k) (a1 : Ac2 51 = upd (Ac 51) ((w + 1) % 50) x) (a2 : Ac2 52 = upd (Ac 52) ((w + 1) % 50) y) (a3 : Ac2 53 = upd (Ac 53) ((w + 1) % 50) g) (a4 : ∀ c, ¬ (39 ≤ c ∧ c ≤ 41) → ¬ (50 ≤ c ∧ c ≤ 53) → Ac2 c = Ac c) (hcp : CPile Fc2 Ac2 38 P) (hU : Undone k x y g P (ps u)) : ∃ F2 A2, fX12_keeps 0 (mkM F1 A1 B1) = some ((), mkM F2 A2 B1) ∧ Rel (mkC Fc2 Ac2 Bc rc) (mkM F2 A2 B1) := by
  obtain ⟨u1, u2, u3, u4, u5, u6, u7, u8, u9, u10⟩ := hC.c3
  have h30 : A1 30 = A 30 := hm.2.1 30 (by decide) (by decide) (by decide) (by decide)
  have h35 : A1 35 = A 35 := hm.2.1 35 (by decide) (by decide) (by decide) (by decide)
  have t7 := hC.t7
  obtain ⟨F2, A2, z1, ⟨z2, z3⟩, z4, z5, z6⟩ := m_keeps (F := F1) (A := A1) (ps := ps) B1 u1 ((hm.1 55 (by decide) (by decide) (by decide) (by decide)).trans u3) (fun j hj => (u7 j hj).eq h35) (u8.eq h30) (P := P) (fun j hj => (u6 j hj).1) hgood.1 hrow
  refine ⟨F2, A2, z1, ?_⟩
  have hF : ∀ k, ¬ k = 46 → ¬ k = 49 → ¬ k = 50 → ¬ k = 51 → ¬ k = 55 → F2 k = F k := fun k q1 q2 q3 q4 q5 => (z3 k q5).trans (hm.1 k q1 q2 q3 q4)
  have hA : ∀ c, ¬ c = 28 → ¬ c = 29 → ¬ c = 31 → ¬ c = 32 → ¬ c = 30 → ¬ c = 35 → A2 c = A c := fun c q1 q2 q3 q4 q5 q6 => (z4 c q5 q6).trans (hm.2.1 c q1 q2 q3 q4)
  have hC2 : Core F2 A2 B1 Fc2 Ac2 Bc rc t lv T (min (u + 1) 50) ((w + 1) % 50) (psN ps u P) n7 sp := by
    refine hC.set3 ⟨hF 17 (by decide) (by decide) (by decide) (by decide) (by decide), hF 18 (by decide) (by decide) (by decide) (by decide) (by decide), hF 62 (by decide) (by decide) (by decide) (by decide) (by decide)⟩ (fun c hc q1 q2 => hA c (by unfold KM at hc; omega) (by unfold KM at hc; omega) (by unfold KM at hc; omega) (by unfold KM at hc; omega) q1 q2) (hm.2.2 7 (by decide) (by decide)) ⟨by rw [f2 37 (by decide) (by decide)], by rw [f2 69 (by decide) (by decide)], fun c _ q1 q2 => f2 c q2 q1⟩ (fun c _ q1 q2 => a4 c q1 q2) ⟨rfl, rfl, rfl⟩ ?_
    refine ⟨by omega, by omega, z2, f0, f1, fun j hj => ?_, z5, by rw [psN_top u1]; exact z6, by rw [psN_top u1]; exact hcp, ring_push u10 u1 u2 a0 a1 a2 a3 hU⟩
    unfold psN
    by_cases c : u < 50
    · rw [if_pos c]
      by_cases c2 : j = u + 1
      · rw [if_pos c2]; exact hgood
      · rw [if_neg c2]; exact u6 j (by omega)
    · rw [if_neg c]
      by_cases c2 : j = 50
      · rw [if_pos c2]; exact hgood
      · rw [if_neg c2]; exact u6 (j + 1) (by omega)
  exact rel_of (hT.eq (hF 2 (by decide) (by decide) (by decide) (by decide) (by decide)) (hA 1 (by decide) (by decide) (by decide) (by decide) (by decide) (by decide)) (by rw [f2 0 (by decide) (by decide)]) (a4 1 (by decide) (by decide))) hC2
end ST4
theorem jJ_bool {x : Int} (hx : in32 x) (σ : Sto) : fX11_isPlace (jJ x) σ = some (b2 (decide (-999 ≤ x ∧ x ≤ 999)), σ) := by
  have e1 : (-999 : Int64) = jJ (-999) := by decide
  have e2 : (999 : Int64) = jJ 999 := rfl
  unfold fX11_isPlace
  simp only [lg_cmp_lt, lg_cmp_gt]
  rw [e1, e2]
  have l1 := jJ_lt (a := x) (b := -999) ⟨by omega, by omega⟩ ⟨by decide, by decide⟩
  have l2 := jJ_lt (a := 999) (b := x) ⟨by decide, by decide⟩ ⟨by omega, by omega⟩
  by_cases c1 : x < -999
  · rw [if_pos (l1.2 c1), decide_eq_false (by omega)]; rfl
  · rw [if_neg (fun q => c1 (l1.1 q))]
    by_cases c2 : 999 < x
    · rw [if_pos (l2.2 c2), decide_eq_false (by omega)]; rfl
    · rw [if_neg (fun q => c2 (l2.1 q)), decide_eq_true (by omega)]; rfl
theorem ag_lay : Ag_IIB Rel fX11_lay fX12_lay := by
  intro σc σm a pl g hg hR
  obtain ⟨F, A, B, Fc, Ac, Bc, rc, t, lv, T, u, w, ps, n7, sp, rfl, rfl, hT, hC⟩ := id hR
  obtain ⟨x, hx, rfl⟩ := iI_of a
  obtain ⟨p, hp, rfl⟩ := iI_of pl
  obtain ⟨b1, b2'⟩ := both_book hC hx
  have h6 := hC.goodP.1
  have hT6 := hC.2.1.1.1
  have e999 : (999 : Int32) = iI 999 := rfl
  have e999' : (-999 : Int32) = iI (-999) := by decide
  unfold fX11_lay fX12_lay
  rw [cck_11 rfl, mck, b1, b2']
  simp only [cb, Option.bind_some]
  by_cases c : 0 ≤ x ∧ x < tNb T
  · obtain ⟨b, hb, rfl⟩ := nat_of c
    rw [decide_eq_true c, if_neg (show ¬ b2 true = 0 by decide), if_neg (show ¬ b2 true = 0 by decide), e999', e999, m_in hp ⟨by decide, by decide⟩ ⟨by decide, by decide⟩]
    simp only [Option.bind_some]
    have hl6 := hC.goodP.lt6 hC.2.1.1
    have l2 := c_levelOf (B := Bc) (r := rc) (PA_of (Or.inl rfl)) hC.crow.2.2.2.1 h6 hl6 hx
    simp only [cr11_6 (c := 0) rfl, Option.bind_some]
    rw [l2]
    simp only [Option.bind_some]
    obtain ⟨F1, A1, ma, p1, p2, p3, p4, p5⟩ := core_copies hC
    have l1 := m_levelOf (F := F1) (B := B) p2.2.2.1.1 h6 hl6 hx
    have hrel := rel_look hT hC p4 (CS.rf (t := t) (A := Ac) (r := rc))
    by_cases cp : -999 ≤ p ∧ p ≤ 999
    · rw [decide_eq_true cp, if_neg (show ¬ b2 true = 0 by decide), p1]
      simp only [Option.bind_some, l1]
      cases hq : lof (ps u) (b : Int) (ps u).1 0 with
      | some i =>
        have hi := (fal_b _ _ _ hq).2.1
        rw [rF_some, rF_some, if_neg (nI_ne1 (by omega)), if_neg (nI_pos (by omega))]
        exact ⟨_, _, _, rfl, rfl, hrel⟩
      | none =>
        have hnone : ∀ i, i < (ps u).1 → ¬ pB (ps u) i = b := fun i hi q => by
          have := fal_n _ _ hq i (by omega) (by omega)
          rw [q] at this
          simp at this
        have good := apPut_good hC.goodP hT6 hb hnone cp hg
        have hsz : (ps u).1 + 1 ≤ 6 := good.1
        rw [rF_none, rF_none, if_pos rfl, if_pos (show (-2 : Int32) < 0 by decide), iI_jJ hp, jJ_bool hp]
        simp only [Option.bind_some]
        rw [decide_eq_true cp, if_neg (show ¬ b2 true = 0 by decide)]
        obtain ⟨Fc1, Ac1, q1, q2, q3⟩ := c_put Bc rc (PA_of (Or.inl rfl)) hC.crow.2.2.2.1 (by omega) (b := b) (by omega) p hg
        have c3 := hC.c3
        obtain ⟨Fc2, Ac2, r1, ⟨r2, r3, r4⟩, ⟨r5, r6, r7, r8⟩, r9⟩ := c_note (F := Fc1) (A := Ac1) Bc rc c3.1 c3.2.1 (by rw [q3.1 49 (by decide)]; exact c3.2.2.2.1) (by rw [q3.1 49 (by decide)]; exact c3.2.2.2.2.1) 1 (nI b) (iI p) hg
        have eb : iI (b : Int) = nI b := rfl
        rw [eb]
        have f38 : Fc2 38 0 = nI ((ps u).1 + 1) := by rw [r4 38 (by decide)]; exact q2.1
        have hsz1 := p2.sz
        have sub1 : nI ((ps u).1 + 1) - 1 = nI (ps u).1 := nI_pred _
        generalize hA2 : va_up (va_up (va_up (va_up A1 31 (upd (A1 31) (ps u).1 (nI b))) 31 (upd (upd (A1 31) (ps u).1 (nI b)) (6 + (ps u).1) (iI p))) 31 (upd (upd (upd (A1 31) (ps u).1 (nI b)) (6 + (ps u).1) (iI p)) (12 + (ps u).1) g)) 31 (upd (upd (upd (upd (A1 31) (ps u).1 (nI b)) (6 + (ps u).1) (iI p)) (12 + (ps u).1) g) 18 (nI ((ps u).1 + 1))) = A2
        have A2e : A2 = va_up A1 31 (upd (upd (upd (upd (A1 31) (ps u).1 (nI b)) (6 + (ps u).1) (iI p)) (12 + (ps u).1) g) 18 (nI ((ps u).1 + 1))) := by rw [← hA2, vau_vau, vau_vau, vau_vau]
        have row : MPile A2 31 0 (apPut (ps u) b p g) := by
          have old := p2.2.2.1.1
          refine ⟨by rw [A2e, vau_at]; exact upd_at _ _ _, fun i hi => ?_⟩
          have hi2 : i < (ps u).1 + 1 := hi
          rw [A2e, vau_at]
          simp only [Nat.zero_add]
          unfold apPut
          dsimp only
          by_cases c2 : i = (ps u).1
          · rw [c2, upd_ne (by omega), upd_ne (by omega), upd_ne (by omega), upd_at, upd_ne (by omega), upd_ne (by omega), upd_at, upd_ne (by omega), upd_at, if_pos rfl, if_pos rfl, if_pos rfl]
            exact ⟨rfl, rfl, rfl⟩
          · have := old.2 i (by omega)
            simp only [Nat.zero_add] at this
            rw [upd_ne (by omega), upd_ne (by omega), upd_ne (by omega), upd_ne (by omega), upd_ne (by omega), upd_ne (by omega), upd_ne (by omega), upd_ne (by omega), upd_ne (by omega), upd_ne (by omega), upd_ne (by omega), upd_ne (by omega), if_neg c2, if_neg c2, if_neg c2]
            exact this
        have mc2 : MC F F1 A A2 B B := p4.tr ⟨fun _ _ _ _ _ => rfl, fun c _ _ q _ => by rw [A2e, vau_ne q], fun _ _ _ => rfl⟩
        obtain ⟨F2, A3, s1, s2⟩ := rel_push (Fc2 := Fc2) (Ac2 := Ac2) hT hC mc2 row good r2 r3 (fun c q q' => by rw [r4 c q, q3.1 c q']) (by rw [r5, q3.2 50 (by decide) (by decide) (by decide)]) (by rw [r6, q3.2 51 (by decide) (by decide) (by decide)]) (by rw [r7, q3.2 52 (by decide) (by decide) (by decide)]) (by rw [r8, q3.2 53 (by decide) (by decide) (by decide)]) (fun c q q' => by rw [r9 c q', q3.2 c (by omega) (by omega) (by omega)]) (q2.eq (r4 38 (by decide)) (r9 _ (by decide)) (r9 _ (by decide)) (r9 _ (by decide))) (Or.inl ⟨rfl, rfl, fun i hi => by
          unfold apPut
          dsimp only
          rw [if_neg (by omega), if_neg (by omega), if_neg (by omega)]
          exact ⟨rfl, rfl, rfl⟩⟩)
        refine ⟨nI (ps u).1, mkC Fc2 Ac2 Bc rc, mkM F2 A3 B, ?_, ?_, s2⟩
        · simp (disch := first | assumption | omega | decide | exact And.intro (by omega) (by omega)) only [cck_0, cr0_0, cr0_1, cr0_2, cr0_3, cg0_4, cp0_4, cg0_5, cp0_5, cck_1, cg1_0, cp1_0, cr1_1, cr1_2, cr1_3, cg1_4, cp1_4, cg1_5, cp1_5, cr1_6, cr1_7, cck_2, cr2_0, cr2_1, cr2_2, cck_3, cr3_0, cr3_1, cg3_2, cp3_2, cg3_3, cp3_3, cg3_4, cp3_4, cg3_5, cp3_5, cg3_6, cp3_6, cg3_7, cp3_7, cg3_8, cp3_8, cck_4, cg4_0, cp4_0, cg4_1, cp4_1, cr4_2, cr4_3, cr4_4, cr4_5, cck_5, cg5_0, cp5_0, cr5_1, cr5_2, cr5_3, cck_6, cg6_0, cp6_0, cg6_1, cp6_1, cck_7, cg7_0, cp7_0, cg7_1, cp7_1, cr7_2, cr7_3, cr7_4, cr7_5, cr7_6, cr7_7, cr7_8, cck_8, cr8_0, cr8_1, cck_9, cr9_0, cr9_1, cr9_2, cr9_3, cg9_4, cp9_4, cck_10, cg10_0, cp10_0, cr10_1, cr10_2, cr10_3, cr10_4, cg10_5, cp10_5, cr10_6, cr10_7, cr10_8, cg10_9, cp10_9, cg10_10, cp10_10, cr10_11, cr10_12, cr10_13, cr10_14, cck_11, cr11_0, cg11_1, cp11_1, cr11_2, cr11_3, cr11_4, cr11_5, cr11_6, cr11_7, cr11_8, cr11_9, cr11_10, cr11_11, cr11_12, cr11_13, cr11_14, ca_30, cs_30, ca_31, cs_31, ca_32, cs_32, ca_33, cs_33, ca_34, cs_34, ca_35, cs_35, ca_36, cs_36, ca_37, cs_37, ca_38, cs_38, ca_39, cs_39, ca_40, cs_40, ca_41, cs_41, ca_42, cs_42, car_20, car_21, car_22, cq11_3, cq11_4, cq3_1, cq0_0, cq0_1, if_true, if_false, Option.bind_some, cb, lt, nI_1, hs_nar2, nh4, upd_at, vau_at, ca_42_0, cs_42_0, q1, r1, f38, sub1]
        · have g01 : (if g = 0 then fX12_lay_b83 0 (nI (ps u).1) 31 (nI (12 + (ps u).1)) 0 (mkM F1 (va_up (va_up A1 31 (upd (A1 31) (ps u).1 (nI b))) 31 (upd (upd (A1 31) (ps u).1 (nI b)) (6 + (ps u).1) (iI p))) B) else fX12_lay_b83 0 (nI (ps u).1) 31 (nI (12 + (ps u).1)) 1 (mkM F1 (va_up (va_up A1 31 (upd (A1 31) (ps u).1 (nI b))) 31 (upd (upd (A1 31) (ps u).1 (nI b)) (6 + (ps u).1) (iI p))) B)) = fX12_lay_b83 0 (nI (ps u).1) 31 (nI (12 + (ps u).1)) g (mkM F1 (va_up (va_up A1 31 (upd (A1 31) (ps u).1 (nI b))) 31 (upd (upd (A1 31) (ps u).1 (nI b)) (6 + (ps u).1) (iI p))) B) := by
            rcases hg with rfl | rfl
            · rfl
            · rfl
          simp (disch := first | assumption | omega | decide | exact And.intro (by omega) (by omega)) only [mck, mg_0, mp_0, mr_1, mg_2, mp_2, mr_3, mg_4, mp_4, mr_5, mr_6, mr_7, mr_8, mr_9, mg_10, mp_10, mg_11, mp_11, mg_12, mp_12, mg_13, mp_13, mg_14, mp_14, mg_15, mp_15, mg_16, mp_16, mg_17, mp_17, mg_18, mp_18, mg_19, mp_19, mg_20, mp_20, mr_21, mr_22, mr_23, mr_24, mr_25, mr_26, mr_27, mr_28, mr_29, mr_30, mr_31, mr_32, mg_33, mp_33, mr_34, mr_35, mr_36, mr_37, mr_38, mg_39, mp_39, mr_40, mr_41, mr_42, mg_43, mp_43, mr_44, mr_45, mg_46, mp_46, mr_47, mr_48, mg_49, mp_49, mg_50, mp_50, mg_51, mp_51, mr_52, mr_53, mr_54, mg_55, mp_55, mr_56, mr_57, mg_58, mp_58, mg_59, mp_59, mg_60, mp_60, mr_61, mg_62, mp_62, mr_63, mr_64, mr_65, mr_66, mr_67, mr_68, ma_1, ms_1, ma_2, ms_2, ma_3, ms_3, ma_4, ms_4, ma_5, ms_5, ma_6, ms_6, ma_7, ms_7, ma_8, ms_8, ma_9, ms_9, ma_10, ms_10, ma_11, ms_11, ma_12, ms_12, ma_13, ms_13, ma_14, ms_14, ma_15, ms_15, ma_16, ms_16, ma_17, ms_17, ma_18, ms_18, ma_19, ms_19, ma_20, ms_20, ma_21, ms_21, ma_22, ms_22, ma_23, ms_23, ma_24, ms_24, ma_25, ms_25, ma_26, ms_26, ma_27, ms_27, ma_28, ms_28, ma_29, ms_29, ma_30, ms_30, ma_31, ms_31, ma_32, ms_32, ma_33, ms_33, ma_34, ms_34, ma_35, ms_35, ma_36, ms_36, ma_37, ms_37, ma_38, ms_38, ma_39, ms_39, ma_40, ms_40, ma_41, ms_41, ma_42, ms_42, ma_43, ms_43, if_true, if_false, Option.bind_some, cb, lt, nI_1, hs_nar2, nh4, upd_at, vau_at, ma_30_18, ms_30_18, ma_31_18, ms_31_18, ma_28_0, ms_28_0, ma_28_1, ms_28_1, ma_28_2, ms_28_2, ma_28_3, ms_28_3, ma_28_4, ms_28_4, ma_42_0, ms_42_0, ma_42_1, ms_42_1, ma_42_2, ms_42_2, ma_36_0, ms_36_0, hsz1, m_add6, m_add12]
          rw [g01]
          unfold fX12_lay_b83
          have u18 : upd (upd (upd (A1 31) (ps u).1 (nI b)) (6 + (ps u).1) (iI p)) (12 + (ps u).1) g 18 = nI (ps u).1 := by rw [upd_ne (by omega), upd_ne (by omega), upd_ne (by omega)]; exact hsz1
          simp (disch := first | assumption | omega | decide | exact And.intro (by omega) (by omega)) only [mck, mg_0, mp_0, mr_1, mg_2, mp_2, mr_3, mg_4, mp_4, mr_5, mr_6, mr_7, mr_8, mr_9, mg_10, mp_10, mg_11, mp_11, mg_12, mp_12, mg_13, mp_13, mg_14, mp_14, mg_15, mp_15, mg_16, mp_16, mg_17, mp_17, mg_18, mp_18, mg_19, mp_19, mg_20, mp_20, mr_21, mr_22, mr_23, mr_24, mr_25, mr_26, mr_27, mr_28, mr_29, mr_30, mr_31, mr_32, mg_33, mp_33, mr_34, mr_35, mr_36, mr_37, mr_38, mg_39, mp_39, mr_40, mr_41, mr_42, mg_43, mp_43, mr_44, mr_45, mg_46, mp_46, mr_47, mr_48, mg_49, mp_49, mg_50, mp_50, mg_51, mp_51, mr_52, mr_53, mr_54, mg_55, mp_55, mr_56, mr_57, mg_58, mp_58, mg_59, mp_59, mg_60, mp_60, mr_61, mg_62, mp_62, mr_63, mr_64, mr_65, mr_66, mr_67, mr_68, ma_1, ms_1, ma_2, ms_2, ma_3, ms_3, ma_4, ms_4, ma_5, ms_5, ma_6, ms_6, ma_7, ms_7, ma_8, ms_8, ma_9, ms_9, ma_10, ms_10, ma_11, ms_11, ma_12, ms_12, ma_13, ms_13, ma_14, ms_14, ma_15, ms_15, ma_16, ms_16, ma_17, ms_17, ma_18, ms_18, ma_19, ms_19, ma_20, ms_20, ma_21, ms_21, ma_22, ms_22, ma_23, ms_23, ma_24, ms_24, ma_25, ms_25, ma_26, ms_26, ma_27, ms_27, ma_28, ms_28, ma_29, ms_29, ma_30, ms_30, ma_31, ms_31, ma_32, ms_32, ma_33, ms_33, ma_34, ms_34, ma_35, ms_35, ma_36, ms_36, ma_37, ms_37, ma_38, ms_38, ma_39, ms_39, ma_40, ms_40, ma_41, ms_41, ma_42, ms_42, ma_43, ms_43, if_true, if_false, Option.bind_some, cb, lt, nI_1, hs_nar2, nh4, upd_at, vau_at, ma_30_18, ms_30_18, ma_31_18, ms_31_18, ma_28_0, ms_28_0, ma_28_1, ms_28_1, ma_28_2, ms_28_2, ma_28_3, ms_28_3, ma_28_4, ms_28_4, ma_42_0, ms_42_0, ma_42_1, ms_42_1, ma_42_2, ms_42_2, ma_36_0, ms_36_0, u18]
          rw [hA2, s1]
          simp only [Option.bind_some]
    · rw [decide_eq_false cp, if_pos (show b2 false = 0 by decide), iI_jJ hp, jJ_bool hp]
      simp only [Option.bind_some]
      rw [decide_eq_false cp, if_pos (show b2 false = 0 by decide)]
      refine ⟨_, _, _, ?_, rfl, hR⟩
      split <;> rfl
  · rw [decide_eq_false c, if_pos (show b2 false = 0 by decide), if_pos (show b2 false = 0 by decide)]
    exact ⟨_, _, _, rfl, rfl, hR⟩
