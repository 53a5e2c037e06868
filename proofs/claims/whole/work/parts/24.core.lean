/-! ===== what lasts, lasts while the cells that tell it do ===== -/
def KF (t c : Nat) : Prop := c = t ∨ c = 38 ∨ c = 49 ∨ c = 57 ∨ c = 61 ∨ c = 65 ∨ (75 ≤ c ∧ c ≤ 122)
def KA (t c : Nat) : Prop := (t + 2 ≤ c ∧ c ≤ t + 10 ∧ ¬ c = t + 7) ∨ (39 ≤ c ∧ c ≤ 41) ∨ (50 ≤ c ∧ c ≤ 53) ∨ (56 ≤ c ∧ c ≤ 68) ∨ (75 ≤ c ∧ c ≤ 122)
def KM (c : Nat) : Prop := (9 ≤ c ∧ c ≤ 16) ∨ (18 ≤ c ∧ c ≤ 26) ∨ c = 30 ∨ c = 35 ∨ c = 38 ∨ c = 39 ∨ c = 42 ∨ c = 43
def MEq (F F' : Nat → Int32) (A A' : Nat → Nat → Int32) (B B' : Nat → Nat → Int64) : Prop := (F' 17 = F 17 ∧ F' 18 = F 18 ∧ F' 55 = F 55 ∧ F' 62 = F 62) ∧ (∀ c, KM c → A' c = A c) ∧ B' 7 = B 7
def CEq (t : Nat) (F F' A A' : Nat → Nat → Int32) (B B' : Nat → Nat → Int64) (r r' : Nat → Nat) : Prop := (F' 37 4 = F 37 4 ∧ F' 69 0 = F 69 0 ∧ ∀ c, KF t c → F' c = F c) ∧ (∀ c, KA t c → A' c = A c) ∧ B' 3 = B 3 ∧ r' 0 = r 0 ∧ r' 1 = r 1
theorem MEq.rf {F : Nat → Int32} {A : Nat → Nat → Int32} {B : Nat → Nat → Int64} : MEq F F A A B B := ⟨⟨rfl, rfl, rfl, rfl⟩, fun _ _ => rfl, rfl⟩
theorem CEq.rf {t : Nat} {F A : Nat → Nat → Int32} {B : Nat → Nat → Int64} {r : Nat → Nat} : CEq t F F A A B B r r := ⟨⟨rfl, rfl, fun _ _ => rfl⟩, fun _ _ => rfl, rfl, rfl, rfl⟩
theorem MEq.tr {F F1 F2 : Nat → Int32} {A A1 A2 : Nat → Nat → Int32} {B B1 B2 : Nat → Nat → Int64} (h : MEq F F1 A A1 B B1) (g : MEq F1 F2 A1 A2 B1 B2) : MEq F F2 A A2 B B2 :=
  ⟨⟨g.1.1.trans h.1.1, g.1.2.1.trans h.1.2.1, g.1.2.2.1.trans h.1.2.2.1, g.1.2.2.2.trans h.1.2.2.2⟩, fun c hc => (g.2.1 c hc).trans (h.2.1 c hc), g.2.2.trans h.2.2⟩
theorem CEq.tr {t : Nat} {F F1 F2 A A1 A2 : Nat → Nat → Int32} {B B1 B2 : Nat → Nat → Int64} {r r1 r2 : Nat → Nat} (h : CEq t F F1 A A1 B B1 r r1) (g : CEq t F1 F2 A1 A2 B1 B2 r1 r2) : CEq t F F2 A A2 B B2 r r2 :=
  ⟨⟨g.1.1.trans h.1.1, g.1.2.1.trans h.1.2.1, fun c hc => (g.1.2.2 c hc).trans (h.1.2.2 c hc)⟩, fun c hc => (g.2.1 c hc).trans (h.2.1 c hc), g.2.2.1.trans h.2.2.1, g.2.2.2.1.trans h.2.2.2.1, g.2.2.2.2.trans h.2.2.2.2⟩
theorem MPile.eq {A A' : Nat → Nat → Int32} {c o : Nat} {P : AP} (h : MPile A c o P) (e : A' c = A c) : MPile A' c o P := by
  unfold MPile at *
  rw [e]
  exact h
theorem CPile.eq {F F' A A' : Nat → Nat → Int32} {k : Nat} {P : AP} (h : CPile F A k P) (e0 : F' k = F k) (e1 : A' (k + 1) = A (k + 1)) (e2 : A' (k + 2) = A (k + 2)) (e3 : A' (k + 3) = A (k + 3)) : CPile F' A' k P := by
  unfold CPile at *
  rw [e0, e1, e2, e3]
  exact h
theorem LawM.eq {A A' : Nat → Nat → Int32} {k : Nat} {f : (Nat → Int32) → Int32} (h : LawM A k f) (e : ∀ c, 18 ≤ c → c ≤ 26 → A' c = A c) : LawM A' k f := by
  refine ⟨by rw [e 18 (by omega) (by omega), e 19 (by omega) (by omega)]; exact h.1, fun F A2 B h2 => h.2 F A2 B (fun c j h3 h4 h5 => (h2 c j h3 h4 h5).trans (congrFun (e c h3 h4) j))⟩
theorem LawM.eqR {A A' : Nat → Nat → Int32} {k : Nat} {f : (Nat → Int32) → Int32} (h : LawM A k f) (e : ∀ c j, 18 ≤ c → c ≤ 26 → MReg (k / 6) c j → A' c j = A c j) : LawM A' k f := by
  have r1 : ∀ c, c ≤ 19 → MReg (k / 6) c k := fun c hc => ⟨fun _ => by omega, fun q => by omega, fun q => by omega⟩
  refine ⟨by rw [e 18 k (by omega) (by omega) (r1 18 (by omega)), e 19 k (by omega) (by omega) (r1 19 (by omega))]; exact h.1, fun F A2 B h2 => h.2 F A2 B (fun c j h3 h4 h5 => (h2 c j h3 h4 h5).trans (e c j h3 h4 h5))⟩
theorem LawC.eq {F F' A A' : Nat → Nat → Int32} {t st : Nat} {f : (Nat → Int32) → Int32} (h : LawC F A t st f) (e0 : F' t = F t) (e1 : A' (t + 5) = A (t + 5)) (e2 : A' (t + 6) = A (t + 6)) : LawC F' A' t st f := by
  unfold LawC at *
  rw [e0, e1, e2]
  exact h
theorem MText.eq {A A' : Nat → Nat → Int32} {lv : Nat} {T : TD} (h : MText A lv T) (e : ∀ c, KM c → A' c = A c) : MText A' lv T := by
  obtain ⟨h1, h2, h3, h4, h5, h6⟩ := h
  unfold MText
  rw [e 9 (Or.inl ⟨by decide, by decide⟩), e 10 (Or.inl ⟨by decide, by decide⟩), e 11 (Or.inl ⟨by decide, by decide⟩), e 12 (Or.inl ⟨by decide, by decide⟩), e 13 (Or.inl ⟨by decide, by decide⟩), e 14 (Or.inl ⟨by decide, by decide⟩), e 15 (Or.inl ⟨by decide, by decide⟩), e 16 (Or.inl ⟨by decide, by decide⟩), e 18 (Or.inr (Or.inl ⟨by decide, by decide⟩)), e 19 (Or.inr (Or.inl ⟨by decide, by decide⟩))]
  refine ⟨h1, h2, h3, h4, h5, fun b hb => ?_⟩
  have h7 := h6 b hb
  cases hq : tLw T b with
  | none => rw [hq] at h7; exact h7
  | some f => rw [hq] at h7; exact LawM.eq h7 (fun c g1 g2 => e c (Or.inr (Or.inl ⟨g1, g2⟩)))
theorem CText.eq {F F' A A' : Nat → Nat → Int32} {t : Nat} {T : TD} (h : CText F A t T) (e0 : F' t = F t) (e : ∀ c, t + 2 ≤ c → c ≤ t + 10 → ¬ c = t + 7 → A' c = A c) : CText F' A' t T := by
  obtain ⟨h1, h2, h3, h4, h5, h6, h7⟩ := h
  unfold CText
  rw [e0, e (t + 2) (by omega) (by omega) (by omega), e (t + 3) (by omega) (by omega) (by omega), e (t + 4) (by omega) (by omega) (by omega), e (t + 8) (by omega) (by omega) (by omega), e (t + 9) (by omega) (by omega) (by omega), e (t + 10) (by omega) (by omega) (by omega)]
  refine ⟨h1, h2, h3, h4, h5, h6, fun b hb => ?_⟩
  have h8 := h7 b hb
  cases hq : tLw T b with
  | none => rw [hq] at h8; exact h8
  | some f =>
    rw [hq] at h8
    obtain ⟨st, g1, g2, g3⟩ := h8
    exact ⟨st, g1, g2, g3.eq e0 (e (t + 5) (by omega) (by omega) (by omega)) (e (t + 6) (by omega) (by omega) (by omega))⟩
theorem Sight.eq {F F' A A' : Nat → Nat → Int32} {T : TD} {k : Nat} {P : AP} {s : Int32} (h : Sight F A T k P s) (e0 : F' k = F k) (e : ∀ c, k + 1 ≤ c → c ≤ k + 7 → A' c = A c) : Sight F' A' T k P s := by
  unfold Sight at *
  rw [e0, e (k + 1) (by omega) (by omega), e (k + 2) (by omega) (by omega), e (k + 3) (by omega) (by omega), e (k + 4) (by omega) (by omega), e (k + 5) (by omega) (by omega), e (k + 6) (by omega) (by omega), e (k + 7) (by omega) (by omega)]
  exact h
theorem Core.eq {F F' : Nat → Int32} {A A' : Nat → Nat → Int32} {B B' : Nat → Nat → Int64} {Fc Fc' Ac Ac' : Nat → Nat → Int32} {Bc Bc' : Nat → Nat → Int64} {rc rc' : Nat → Nat} {t lv : Nat} {T : TD} {u w : Nat} {ps : Nat → AP} {n7 : Nat} {sp : Nat → AP} (h : Core F A B Fc Ac Bc rc t lv T u w ps n7 sp) (hm : MEq F F' A A' B B') (hc : CEq t Fc Fc' Ac Ac' Bc Bc' rc rc') : Core F' A' B' Fc' Ac' Bc' rc' t lv T u w ps n7 sp := by
  obtain ⟨⟨a1, a2, a3, a4, a5⟩, ⟨b1, b2, b3⟩, ⟨c1, c2, c3, c4, c5, c6, c7, c8, c9, c10⟩, d1, ⟨e1, e2, e3, e4⟩, f1, f2⟩ := h
  obtain ⟨⟨m1, m2, m3, m4⟩, m5, m6⟩ := hm
  obtain ⟨⟨k1, k2, k3⟩, k4, k5, k6, k7⟩ := hc
  have t1 : t = 7 ∨ t = 22 := a1.elim (fun h => Or.inl h.1) (fun h => Or.inr h.1)
  refine ⟨⟨by rw [k7]; exact a1, by rw [k6]; exact a2, a3, by rw [m2]; exact a4, by rw [k1, m1]; exact a5⟩, ⟨b1, b2.eq m5, b3.eq (k3 t (Or.inl rfl)) (fun c g1 g2 g3 => k4 c (Or.inl ⟨g1, g2, g3⟩))⟩, ⟨c1, c2, by rw [m3]; exact c3, by rw [k3 49 (Or.inr (Or.inr (Or.inl rfl)))]; exact c4, by rw [k3 49 (Or.inr (Or.inr (Or.inl rfl)))]; exact c5, c6, fun j hj => (c7 j hj).eq (m5 35 (by unfold KM; omega)), c8.eq (m5 30 (by unfold KM; omega)), c9.eq (k3 38 (Or.inr (Or.inl rfl))) (k4 39 (by unfold KA; omega)) (k4 40 (by unfold KA; omega)) (k4 41 (by unfold KA; omega)), ?_⟩, ?_, ⟨e1, by rw [m4]; exact e2, by rw [k2]; exact e3, ?_⟩, by rw [m6]; exact f1, by rw [k5]; exact f2⟩
  · unfold Ring at *
    rw [k4 50 (by unfold KA; omega), k4 51 (by unfold KA; omega), k4 52 (by unfold KA; omega), k4 53 (by unfold KA; omega)]
    exact c10
  · intro s hs
    obtain ⟨g1, g2, g3⟩ := d1 s hs
    rw [m5 42 (by unfold KM; omega), k4 56 (by unfold KA; omega)]
    refine ⟨g1, g2, fun h1 => ?_⟩
    obtain ⟨P, p1, p2, p3⟩ := g3 h1
    exact ⟨P, p1, p2.eq (m5 43 (by unfold KM; omega)), p3.eq (k3 _ (by unfold KF; omega)) (k4 _ (by unfold KA; omega)) (k4 _ (by unfold KA; omega)) (k4 _ (by unfold KA; omega))⟩
  · intro j hj
    obtain ⟨g1, g2, g3⟩ := e4 j hj
    rw [m5 39 (by unfold KM; omega)]
    exact ⟨g1, g2.eq (m5 38 (by unfold KM; omega)), g3.eq (k3 _ (by unfold KF; omega)) (fun c q1 q2 => k4 c (by unfold KA; omega))⟩
/-! ===== place, back, feed ===== -/
theorem ag_place : Ag_ Rel fX11_place fX12_place := by
  intro σc σm hR
  obtain ⟨F, A, B, Fc, Ac, Bc, rc, t, lv, T, u, w, ps, n7, sp, rfl, rfl, hT, hC⟩ := id hR
  refine ⟨F 17, _, _, ?_, ?_, hR⟩
  · unfold fX11_place
    rw [cck_11 rfl, cr11_5 rfl]
    simp only [Option.bind_some, cg3_4 (c := 37) rfl, hC.1.2.2.2.2]
  · unfold fX12_place
    rw [mck, mg_17]
    rfl
theorem ag_back : Ag_I Rel fX11_back fX12_back := by
  intro σc σm a hR
  obtain ⟨F, A, B, Fc, Ac, Bc, rc, t, lv, T, u, w, ps, n7, sp, rfl, rfl, ⟨n, hn, hF, hFc, hb⟩, hC⟩ := id hR
  unfold fX11_back fX12_back
  rw [cck_11 rfl, mck]
  by_cases h0 : a < 0
  · exact ⟨-1, _, _, by rw [if_pos h0], by rw [if_pos h0], hR⟩
  · rw [if_neg h0, if_neg h0]
    simp only [cg11_1 (c := 0) rfl, mg_2, Option.bind_some, hF, hFc]
    by_cases h1 : a ≤ nI n
    · obtain ⟨j, hj, rfl⟩ := nI_of2 (M := nI n) (n := n) (nI_toInt (by omega)) h0 h1
      simp only [if_pos h1, Option.bind_some, mg_2, mp_2, cg11_1 (c := 0) rfl, cp11_1 (c := 0) rfl, hF, hFc, pk_sub hj, upd_at, vau_at]
      refine ⟨_, _, _, rfl, rfl, _, _, _, _, _, _, _, t, lv, T, u, w, ps, n7, sp, rfl, rfl, ⟨n - j, by omega, upd_at _ _ _, by rw [vau_at, upd_at], fun i hi => hb i (by omega)⟩, hC.eq ⟨⟨rfl, rfl, rfl, rfl⟩, fun _ _ => rfl, rfl⟩ ⟨⟨rfl, rfl, fun c hc => vau_ne (by unfold KF at hc; rcases hC.1.1 with h | h <;> omega)⟩, fun _ _ => rfl, rfl, rfl, rfl⟩⟩
    · exact ⟨-1, _, _, by rw [if_neg h1], by rw [if_neg h1], hR⟩
/-- one word more on both tapes -/
theorem tape_word {F : Nat → Int32} {A : Nat → Nat → Int32} {B : Nat → Nat → Int64} {Fc Ac : Nat → Nat → Int32} {Bc : Nat → Nat → Int64} {rc : Nat → Nat} {t lv : Nat} {T : TD} {u w : Nat} {ps : Nat → AP} {n7 : Nat} {sp : Nat → AP} {n : Nat} (x : Int32) (hF : F 2 = nI n) (hFc : Fc 0 1 = nI n) (hb : ∀ i, i < n → Ac 1 i = A 1 i &&& 255) (hC : Core F A B Fc Ac Bc rc t lv T u w ps n7 sp) (hn : n + 4 ≤ 2000) :
    ∃ (F' : Nat → Int32) (A' : Nat → Nat → Int32) (Fc' Ac' : Nat → Nat → Int32), fX11_putBytes 0 x (mkC Fc Ac Bc rc) = some ((), mkC Fc' Ac' Bc rc) ∧ fX12_put 0 x (mkM F A B) = some ((), mkM F' A' B) ∧ F' 2 = nI (n + 4) ∧ Fc' 0 1 = nI (n + 4) ∧ (∀ i, i < n + 4 → Ac' 1 i = A' 1 i &&& 255) ∧ Core F' A' B Fc' Ac' Bc rc t lv T u w ps n7 sp := by
  obtain ⟨g, h1, h2⟩ := cput Fc Ac Bc rc x hFc hn
  refine ⟨_, _, _, _, h1, mput F A B x hF hn, upd_at _ _ _, by rw [vau_at, upd_at], ?_, hC.eq ⟨⟨rfl, rfl, rfl, rfl⟩, fun c hc => vau_ne (by unfold KM at hc; omega), rfl⟩ ⟨⟨rfl, rfl, fun c hc => vau_ne (by unfold KF at hc; rcases hC.1.1 with h | h <;> omega)⟩, fun c hc => vau_ne (by unfold KA at hc; rcases hC.1.1 with h | h <;> omega), rfl, rfl, rfl⟩⟩
  intro i hi
  rw [vau_at, vau_at, h2]
  rw [byte_eq x 24 24 (by omega) (by decide) (by decide), byte_eq x 16 16 (by omega) (by decide) (by decide), byte_eq x 8 8 (by omega) (by decide) (by decide), byte_eq x 0 0 (by omega) (by decide) (by decide)]
  by_cases e3 : i = n + 3
  · subst e3; rw [upd_at, upd_at]
  rw [upd_ne e3, upd_ne e3]
  by_cases e2 : i = n + 2
  · subst e2; rw [upd_at, upd_at]
  rw [upd_ne e2, upd_ne e2]
  by_cases e1 : i = n + 1
  · subst e1; rw [upd_at, upd_at]
  rw [upd_ne e1, upd_ne e1]
  by_cases e0 : i = n
  · subst e0; rw [upd_at, upd_at]
  rw [upd_ne e0, upd_ne e0]
  exact hb i (by omega)
theorem ag_feed : Ag_IIIII Rel fX11_feed fX12_feed := by
  intro σc σm a b c d e hR
  obtain ⟨F, A, B, Fc, Ac, Bc, rc, t, lv, T, u, w, ps, n7, sp, rfl, rfl, ⟨n, hn, hF, hFc, hb⟩, hC⟩ := id hR
  unfold fX11_feed fX12_feed
  rw [cck_11 rfl, mck]
  simp only [cg11_1 (c := 0) rfl, mg_2, Option.bind_some, hF, hFc]
  have hs : nI n + 20 = nI (n + 20) := nI_add n 20
  rw [hs]
  by_cases h1 : n + 20 ≤ 2000
  · have h2 : nI (n + 20) ≤ 2000 := nI_le (b := 2000) h1 (by decide)
    rw [if_pos h2, if_pos h2]
    obtain ⟨F1, A1, G1, D1, p1, q1, r1, s1, v1, C1⟩ := tape_word a hF hFc hb hC (by omega)
    obtain ⟨F2, A2, G2, D2, p2, q2, r2, s2, v2, C2⟩ := tape_word b r1 s1 v1 C1 (by omega)
    obtain ⟨F3, A3, G3, D3, p3, q3, r3, s3, v3, C3⟩ := tape_word c r2 s2 v2 C2 (by omega)
    obtain ⟨F4, A4, G4, D4, p4, q4, r4, s4, v4, C4⟩ := tape_word d r3 s3 v3 C3 (by omega)
    obtain ⟨F5, A5, G5, D5, p5, q5, r5, s5, v5, C5⟩ := tape_word e r4 s4 v4 C4 (by omega)
    simp only [cb, p1, q1, p2, q2, p3, q3, p4, q4, p5, q5, Option.bind_some, cg11_1 (c := 0) rfl, mg_2, r5, s5]
    exact ⟨_, _, _, rfl, rfl, _, _, _, _, _, _, _, t, lv, T, u, w, ps, n7, sp, rfl, rfl, ⟨_, by omega, r5, s5, v5⟩, C5⟩
  · have h2 : ¬ nI (n + 20) ≤ 2000 := nI_ge (a := 2000) (b := n + 20) (by omega) (by omega)
    rw [if_neg h2, if_neg h2]
    exact ⟨_, _, _, rfl, rfl, hR⟩
