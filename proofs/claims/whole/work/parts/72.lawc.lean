/-! ===== the class's laws, whole ===== -/
def LayC (A : Nat → Nat → Int32) (t : Nat) : List (List Op × List Op × List Op) → List Op → Nat → Prop
  | [], la, c => SegC A t c la ∧ A (t + 5) (c + la.length) = nI 4
  | x :: Br, la, c => SegC A t c x.1 ∧ SegC A t (c + x.1.length) x.2.1 ∧ (A (t + 5) (c + x.1.length + x.2.1.length) = nI 3 ∧ A (t + 6) (c + x.1.length + x.2.1.length) = nI (c + x.1.length + x.2.1.length + 1 + x.2.2.length + 1)) ∧ SegC A t (c + x.1.length + x.2.1.length + 1) x.2.2 ∧ A (t + 5) (c + x.1.length + x.2.1.length + 1 + x.2.2.length) = nI 4 ∧ LayC A t Br la (c + x.1.length + x.2.1.length + 1 + x.2.2.length + 1)
def szC : List (List Op × List Op × List Op) → List Op → Nat
  | [], la => la.length + 1
  | x :: Br, la => x.1.length + x.2.1.length + 1 + x.2.2.length + 1 + szC Br la
theorem LayC.eq {A A' : Nat → Nat → Int32} {t : Nat} {la : List Op} : ∀ {Br : List (List Op × List Op × List Op)} {c : Nat}, LayC A t Br la c → (∀ j, c ≤ j → j < c + szC Br la → A' (t + 5) j = A (t + 5) j ∧ A' (t + 6) j = A (t + 6) j) → LayC A' t Br la c
  | [], c, h, e => by
    rw [szC] at e
    exact ⟨h.1.eq (fun j q1 q2 => e j (by omega) (by omega)), by rw [(e (c + la.length) (by omega) (by omega)).1]; exact h.2⟩
  | x :: Br, c, h, e => by
    rw [szC] at e
    obtain ⟨h1, h2, ⟨h3, h4⟩, h5, h6, h7⟩ := h
    exact ⟨h1.eq (fun j q1 q2 => e j (by omega) (by omega)), h2.eq (fun j q1 q2 => e j (by omega) (by omega)), ⟨by rw [(e _ (by omega) (by omega)).1]; exact h3, by rw [(e _ (by omega) (by omega)).2]; exact h4⟩, h5.eq (fun j q1 q2 => e j (by omega) (by omega)), by rw [(e _ (by omega) (by omega)).1]; exact h6, h7.eq (fun j q1 q2 => e j (by omega) (by omega))⟩
section LC2
variable {F : Nat → Nat → Int32} {B : Nat → Nat → Int64} {r : Nat → Nat} {t h lev N : Nat} {P : AP} {lg wt : Int}
theorem c_give {A : Nat → Nat → Int32} (hK : LkC F A t h lev N P lg wt) {c fuel : Nat} {x : Int32} (hc : c < N) (h4 : A (t + 5) c = nI 4) (hx : A (t + 7) 0 = x) : fX10_runLaw_b6 (fuel + 1) t h (nI lev) (nI 1) (nI c) (mkC F A B r) = some (x, mkC F A B r) := by
  obtain ⟨k0, k1, k2, k3, k4, k5, k6, k7, k8, k9, k10, k11⟩ := TA_of hK.1.1
  have hF5 := hK.2.2.2.1
  have hN := hK.2.2.2.2
  have hc400 : c < 400 := by omega
  rw [fX10_runLaw_b6, cg10_5 k0, Option.bind_some]
  try dsimp only
  rw [hF5, if_neg (nI_ge hc (by omega)), if_neg (by decide), cr10_6 k0, Option.bind_some]
  try dsimp only
  rw [ca_36 k5 hc400, Option.bind_some]
  try dsimp only
  rw [h4, if_neg (by decide), if_neg (by decide), if_pos (show nI 4 = (4 : Int32) from rfl)]
  unfold fX10_runLaw_b91
  rw [if_pos (by decide), cr10_8 k0, Option.bind_some]
  have e : nI 1 - 1 = nI 0 := rfl
  try dsimp only
  rw [e, ca_37 k7 (by decide), Option.bind_some, hx]
theorem c_law_go {la : List Op} : ∀ (Br : List (List Op × List Op × List Op)) (c fuel : Nat) (A : Nat → Nat → Int32), OkB Br la → LkC F A t h lev N P lg wt → LayC A t Br la c → c + szC Br la ≤ N → szC Br la < fuel → ∃ g, fX10_runLaw_b6 fuel t h (nI lev) (nI 0) (nI c) (mkC F A B r) = some (lawF Br la (lawV lg wt lev (P.2.2.1 lev) (P.1 - 1 - lev)), mkC F (va_up A (t + 7) g) B r)
  | [], c, fuel, A, hO, hK, hLy, hc, hfu => by
    rw [szC] at hc hfu
    obtain ⟨fuel, rfl⟩ : ∃ q, fuel = q + 1 + la.length := ⟨fuel - 1 - la.length, by omega⟩
    obtain ⟨i1, i2⟩ := c_seg (B := B) (r := r) la c (fuel + 1) [] 1 A hO.2.1 (hO.2.2 0 39 (by omega)) (by decide) (by omega) hK hLy.1 trivial
    rw [lawF]
    rcases val_cases (lawV lg wt lev (P.2.2.1 lev) (P.1 - 1 - lev)) hO.2 [] with ⟨h1, h2⟩ | ⟨x, h1, h2⟩
    · obtain ⟨g, z⟩ := i1 h2
      exact ⟨g, by rw [h1]; exact z⟩
    · obtain ⟨g, z, z2⟩ := i2 [x] h2
      have gv := c_give (B := B) (r := r) (hK.up g) (c := c + la.length) (fuel := fuel) (x := x) (by omega) (by rw [vau_ne (by omega)]; exact hLy.2) (by rw [vau_at]; exact z2.1)
      exact ⟨g, by rw [h1]; exact z.trans gv⟩
  | x :: Br, c, fuel, A, hO, hK, hLy, hc, hfu => by
    rw [szC] at hc hfu
    obtain ⟨l1, l2, ⟨l3, l4⟩, l5, l6, l7⟩ := hLy
    obtain ⟨o1, o2, o3⟩ := hO.1 x (List.mem_cons_self ..)
    have hO' : OkB Br la := ⟨fun y hy => hO.1 y (List.mem_cons_of_mem _ hy), hO.2⟩
    obtain ⟨k0, k1, k2, k3, k4, k5, k6, k7, k8, k9, k10, k11⟩ := TA_of hK.1.1
    have hF5 := hK.2.2.2.1
    have hN := hK.2.2.2.2
    obtain ⟨fuel, rfl⟩ : ∃ q, fuel = q + 1 + 1 + x.2.1.length + x.1.length := ⟨fuel - 2 - x.2.1.length - x.1.length, by omega⟩
    obtain ⟨i1, i2⟩ := c_seg (B := B) (r := r) x.1 c (fuel + 1 + 1 + x.2.1.length) [] 1 A o1.1 (o1.2 0 39 (by omega)) (by decide) (by omega) hK l1 trivial
    have sg : ∀ g {cc : Nat} {L : List Op}, SegC A t cc L → SegC (va_up A (t + 7) g) t cc L := fun g cc L hL => hL.eq (fun j _ _ => ⟨by rw [vau_ne (by omega)], by rw [vau_ne (by omega)]⟩)
    rw [lawF]
    rcases val_cases (lawV lg wt lev (P.2.2.1 lev) (P.1 - 1 - lev)) o1 [] with ⟨h1, h2⟩ | ⟨a, h1, h2⟩
    · obtain ⟨g, z⟩ := i1 h2
      exact ⟨g, by rw [h1]; exact z⟩
    · obtain ⟨g1, z1, z2⟩ := i2 [a] h2
      rw [h1]
      obtain ⟨j1, j2⟩ := c_seg (B := B) (r := r) x.2.1 (c + x.1.length) (fuel + 1 + 1) [a] 2 (va_up A (t + 7) g1) o2.1 (o2.2 1 39 (by omega)) (show 1 ≤ 39 by decide) (by omega) (hK.up g1) (sg g1 l2) (by rw [vau_at]; exact z2)
      rcases val_cases (lawV lg wt lev (P.2.2.1 lev) (P.1 - 1 - lev)) o2 [a] with ⟨h3, h4⟩ | ⟨b, h3, h4⟩
      · obtain ⟨g, z⟩ := j1 h4
        rw [vau_vau] at z
        exact ⟨g, by rw [h3]; exact z1.trans z⟩
      · obtain ⟨g2, z3, z4⟩ := j2 [b, a] h4
        rw [vau_vau] at z3
        rw [h3]
        have hu : c + x.1.length + x.2.1.length < 400 := by omega
        have huN : c + x.1.length + x.2.1.length < N := by omega
        have s3 : va_up A (t + 7) g2 (t + 5) (c + x.1.length + x.2.1.length) = nI 3 := by rw [vau_ne (by omega)]; exact l3
        have s4 : va_up A (t + 7) g2 (t + 6) (c + x.1.length + x.2.1.length) = nI (c + x.1.length + x.2.1.length + 1 + x.2.2.length + 1) := by rw [vau_ne (by omega)]; exact l4
        have s7a : va_up A (t + 7) g2 (t + 7) 0 = a := by rw [vau_at]; exact z4.2.1
        have s7b : va_up A (t + 7) g2 (t + 7) 1 = b := by rw [vau_at]; exact z4.1
        have stp : fX10_runLaw_b6 (fuel + 1 + 1) t h (nI lev) (nI 2) (nI (c + x.1.length + x.2.1.length)) (mkC F (va_up A (t + 7) g2) B r) = if a < b then fX10_runLaw_b6 (fuel + 1) t h (nI lev) (nI 0) (nI (c + x.1.length + x.2.1.length + 1)) (mkC F (va_up A (t + 7) g2) B r) else fX10_runLaw_b6 (fuel + 1) t h (nI lev) (nI 0) (nI (c + x.1.length + x.2.1.length + 1 + x.2.2.length + 1)) (mkC F (va_up A (t + 7) g2) B r) := by
          rw [fX10_runLaw_b6, cg10_5 k0, Option.bind_some]
          try dsimp only
          rw [hF5, if_neg (nI_ge huN (by omega)), if_neg (by decide), cr10_6 k0, Option.bind_some]
          try dsimp only
          rw [ca_36 k5 hu, Option.bind_some]
          try dsimp only
          rw [s3, if_neg (by decide), if_neg (by decide), if_neg (by decide), if_pos (by decide), if_pos (show nI 3 = (3 : Int32) from rfl)]
          have e0 : nI 2 + (-2 : Int32) = nI 0 := by decide
          have e1 : nI 0 + (1 : Int32) = nI 1 := rfl
          have ca0 : aI (mkC F (va_up A (t + 7) g2) B r) 2 (t + 7) (nI 0) = some a := by rw [ca_37 k7 (by decide), s7a]
          have ca1 : aI (mkC F (va_up A (t + 7) g2) B r) 2 (t + 7) (nI 1) = some b := by rw [ca_37 k7 (by decide), s7b]
          have es : nI (c + x.1.length + x.2.1.length + 1 + x.2.2.length + 1) - 1 = nI (c + x.1.length + x.2.1.length + 1 + x.2.2.length) := nI_pred _
          have mx : ∀ σ, fJ9_max_7cf53 (nI (c + x.1.length + x.2.1.length)) (nI (c + x.1.length + x.2.1.length + 1 + x.2.2.length)) σ = some (nI (c + x.1.length + x.2.1.length + 1 + x.2.2.length), σ) := fun σ => by
            have := c_max (a := ((c + x.1.length + x.2.1.length : Nat) : Int)) (b := ((c + x.1.length + x.2.1.length + 1 + x.2.2.length : Nat) : Int)) ⟨by omega, by omega⟩ ⟨by omega, by omega⟩ σ
            rw [show max ((c + x.1.length + x.2.1.length : Nat) : Int) ((c + x.1.length + x.2.1.length + 1 + x.2.2.length : Nat) : Int) = ((c + x.1.length + x.2.1.length + 1 + x.2.2.length : Nat) : Int) by omega] at this
            exact this
          unfold fX10_runLaw_b218
          rw [cr10_8 k0, Option.bind_some]
          try dsimp only
          rw [e0, ca0, Option.bind_some]
          try dsimp only
          rw [Option.bind_some]
          try dsimp only
          rw [e1, ca1, Option.bind_some]
          try dsimp only
          by_cases cab : a < b
          · rw [if_pos cab, if_pos cab, nI_1]
          · rw [if_neg cab, if_neg cab]
            simp -implicitDefEqProofs (disch := first | assumption | omega | decide | exact And.intro (by omega) (by omega)) only [cck_0, cr0_0, cr0_1, cr0_2, cr0_3, cg0_4, cp0_4, cg0_5, cp0_5, cck_1, cg1_0, cp1_0, cr1_1, cr1_2, cr1_3, cg1_4, cp1_4, cg1_5, cp1_5, cr1_6, cr1_7, cck_2, cr2_0, cr2_1, cr2_2, cck_3, cr3_0, cr3_1, cg3_2, cp3_2, cg3_3, cp3_3, cg3_4, cp3_4, cg3_5, cp3_5, cg3_6, cp3_6, cg3_7, cp3_7, cg3_8, cp3_8, cck_4, cg4_0, cp4_0, cg4_1, cp4_1, cr4_2, cr4_3, cr4_4, cr4_5, cck_5, cg5_0, cp5_0, cr5_1, cr5_2, cr5_3, cck_6, cg6_0, cp6_0, cg6_1, cp6_1, cck_7, cg7_0, cp7_0, cg7_1, cp7_1, cr7_2, cr7_3, cr7_4, cr7_5, cr7_6, cr7_7, cr7_8, cck_8, cr8_0, cr8_1, cck_9, cr9_0, cr9_1, cr9_2, cr9_3, cg9_4, cp9_4, cck_10, cg10_0, cp10_0, cr10_1, cr10_2, cr10_3, cr10_4, cg10_5, cp10_5, cr10_6, cr10_7, cr10_8, cg10_9, cp10_9, cg10_10, cp10_10, cr10_11, cr10_12, cr10_13, cr10_14, cck_11, cr11_0, cg11_1, cp11_1, cr11_2, cr11_3, cr11_4, cr11_5, cr11_6, cr11_7, cr11_8, cr11_9, cr11_10, cr11_11, cr11_12, cr11_13, cr11_14, ca_30, cs_30, ca_31, cs_31, ca_32, cs_32, ca_33, cs_33, ca_34, cs_34, ca_35, cs_35, ca_36, cs_36, ca_37, cs_37, ca_38, cs_38, ca_39, cs_39, ca_40, cs_40, ca_41, cs_41, ca_42, cs_42, car_20, car_21, car_22, cq11_3, cq11_4, cq3_1, cq0_0, cq0_1, if_true, if_false, Option.bind_some, cb_e, lt_e, nI_1, hs_nar2, nh4, upd_at, vau_at, ca_42_0, cs_42_0, s4, es, mx]
        show ∃ g, _ = some (if a < b then _ else _, _)
        by_cases cab : a < b
        · rw [if_pos cab] at stp ⊢
          obtain ⟨fuel, rfl⟩ : ∃ q, fuel = q + x.2.2.length := ⟨fuel - x.2.2.length, by omega⟩
          obtain ⟨p1, p2⟩ := c_seg (B := B) (r := r) x.2.2 (c + x.1.length + x.2.1.length + 1) (fuel + 1) [] 1 (va_up A (t + 7) g2) o3.1 (o3.2 0 39 (by omega)) (by decide) (by omega) (hK.up g2) (sg g2 l5) trivial
          have ef : fuel + x.2.2.length + 1 = fuel + 1 + x.2.2.length := by omega
          rw [ef] at stp
          rcases val_cases (lawV lg wt lev (P.2.2.1 lev) (P.1 - 1 - lev)) o3 [] with ⟨h5, h6⟩ | ⟨y, h5, h6⟩
          · obtain ⟨g, z⟩ := p1 h6
            rw [vau_vau] at z
            refine ⟨g, ?_⟩
            rw [h5]
            rw [ef] at z1 z3 ⊢
            exact z1.trans (z3.trans (stp.trans z))
          · obtain ⟨g, z, zz⟩ := p2 [y] h6
            rw [vau_vau] at z
            have gv := c_give (B := B) (r := r) (hK.up g) (c := c + x.1.length + x.2.1.length + 1 + x.2.2.length) (fuel := fuel) (x := y) (by omega) (by rw [vau_ne (by omega)]; exact l6) (by rw [vau_at]; exact zz.1)
            refine ⟨g, ?_⟩
            rw [h5]
            rw [ef] at z1 z3 ⊢
            exact z1.trans (z3.trans (stp.trans (z.trans gv)))
        · rw [if_neg cab] at stp ⊢
          obtain ⟨g, z⟩ := c_law_go Br (c + x.1.length + x.2.1.length + 1 + x.2.2.length + 1) (fuel + 1) (va_up A (t + 7) g2) hO' (hK.up g2) (l7.eq (fun j _ _ => ⟨by rw [vau_ne (by omega)], by rw [vau_ne (by omega)]⟩)) (by omega) (by omega)
          rw [vau_vau] at z
          exact ⟨g, z1.trans (z3.trans (stp.trans z))⟩
end LC2
theorem LawC_of {F A : Nat → Nat → Int32} {t N c : Nat} (ht : t = 7 ∨ t = 22) {Br : List (List Op × List Op × List Op)} {la : List Op} (hO : OkB Br la) (hLy : LayC A t Br la c) (h5 : F t 5 = nI N) (hN : N ≤ 400) (hc : c + szC Br la ≤ N) : LawC F A t c (lawF Br la) := by
  intro F' A' B r h lev P lg wt e1 e2 e3 hp hq p6 hl hb w1 w2
  obtain ⟨k0, k1, k2, k3, k4, k5, k6, k7, k8, k9, k10, k11⟩ := TA_of ht
  obtain ⟨p0, p1, p2, p3⟩ := id hp
  have hK : LkC F' A' t h lev N P lg wt := ⟨⟨ht, hp, (fun q => by rw [q, k7] at p1; exact absurd p1 (by decide)), (fun q => by rw [q, k7] at p2; exact absurd p2 (by decide)), (fun q => by rw [q, k7] at p3; exact absurd p3 (by decide))⟩, ⟨hq, p6, hl, hb⟩, ⟨w1, w2⟩, by rw [e1]; exact h5, hN⟩
  obtain ⟨g, z⟩ := c_law_go (B := B) (r := r) Br c FU A' hO hK (hLy.eq (fun j _ _ => ⟨by rw [e2], by rw [e3]⟩)) hc (by unfold FU; omega)
  refine ⟨g, ?_⟩
  unfold fX10_runLaw
  simp -implicitDefEqProofs (disch := first | assumption | omega | decide | exact And.intro (by omega) (by omega)) only [cck_0, cr0_0, cr0_1, cr0_2, cr0_3, cg0_4, cp0_4, cg0_5, cp0_5, cck_1, cg1_0, cp1_0, cr1_1, cr1_2, cr1_3, cg1_4, cp1_4, cg1_5, cp1_5, cr1_6, cr1_7, cck_2, cr2_0, cr2_1, cr2_2, cck_3, cr3_0, cr3_1, cg3_2, cp3_2, cg3_3, cp3_3, cg3_4, cp3_4, cg3_5, cp3_5, cg3_6, cp3_6, cg3_7, cp3_7, cg3_8, cp3_8, cck_4, cg4_0, cp4_0, cg4_1, cp4_1, cr4_2, cr4_3, cr4_4, cr4_5, cck_5, cg5_0, cp5_0, cr5_1, cr5_2, cr5_3, cck_6, cg6_0, cp6_0, cg6_1, cp6_1, cck_7, cg7_0, cp7_0, cg7_1, cp7_1, cr7_2, cr7_3, cr7_4, cr7_5, cr7_6, cr7_7, cr7_8, cck_8, cr8_0, cr8_1, cck_9, cr9_0, cr9_1, cr9_2, cr9_3, cg9_4, cp9_4, cck_10, cg10_0, cp10_0, cr10_1, cr10_2, cr10_3, cr10_4, cg10_5, cp10_5, cr10_6, cr10_7, cr10_8, cg10_9, cp10_9, cg10_10, cp10_10, cr10_11, cr10_12, cr10_13, cr10_14, cck_11, cr11_0, cg11_1, cp11_1, cr11_2, cr11_3, cr11_4, cr11_5, cr11_6, cr11_7, cr11_8, cr11_9, cr11_10, cr11_11, cr11_12, cr11_13, cr11_14, ca_30, cs_30, ca_31, cs_31, ca_32, cs_32, ca_33, cs_33, ca_34, cs_34, ca_35, cs_35, ca_36, cs_36, ca_37, cs_37, ca_38, cs_38, ca_39, cs_39, ca_40, cs_40, ca_41, cs_41, ca_42, cs_42, car_20, car_21, car_22, cq11_3, cq11_4, cq3_1, cq0_0, cq0_1, if_true, if_false, Option.bind_some, cb_e, lt_e, nI_1, hs_nar2, nh4, upd_at, vau_at, ca_42_0, cs_42_0]
  exact z
