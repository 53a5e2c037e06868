/-! ===== MAKING ===== -/
def nw {β : Type} (σ : Sto) (c : PC) (K : Nat → Sto → Option β) : Option β := K σ.1 (nC σ c)
section HN
variable {G : GP} {M : Mt} {h mc ms n0 : Nat} {ρ : Type} {inj : ρ → Option Value} {kc ks pc : Nat} {lv : List (Nat × Value)} {st : List Value} {σ : Sto} {X : Option (ρ × Sto)}
variable {s : State} {H : Heap} {locs : List Loc}
theorem hs_newq {q : Nat} {E : va_E} {H1 : Heap} (hM : s.heap.size = G.2.2.1 + n0) (hn : σ.1 = n0 + kc) (hP : va_P G.2.1 vwCl (hs_w G.2.2.1 G.2.2.2.1 σ ++ [(q, E)]) H1) (hD : va_D (hs_A G.2.2.1 n0 s.heap.size) (hs_w G.2.2.1 G.2.2.2.1 σ ++ [(q, E)])) (hz : H1.size ≤ s.heap.size + (kc + 1)) : q = G.2.2.1 + σ.1 := by
  have hat : (hs_w G.2.2.1 G.2.2.2.1 σ ++ [(q, E)])[σ.1]? = some (q, E) := by
    rw [List.getElem?_append_right (by rw [hs_wlen]; exact Nat.le_refl _), hs_wlen, Nat.sub_self]
    rfl
  have h1 := (hP _ _ hat).lt
  have h2 := hD.2 _ _ hat
  have h3 : ∀ k, k < σ.1 → q ≠ G.2.2.1 + k := by
    intro k hk he
    have h4 : (hs_w G.2.2.1 G.2.2.2.1 σ ++ [(q, E)])[k]? = some (G.2.2.1 + k, hs_e G.2.2.1 G.2.2.2.1 (σ.2 k)) := by
      rw [List.getElem?_append_left (by rw [hs_wlen]; exact hk)]
      exact hs_wget hk
    have h5 := hD.1 k σ.1 _ _ h4 hat he.symm
    omega
  dsimp only at h1 h2
  rcases h2 with ⟨g1, g2⟩ | g1
  · exact absurd (show q = G.2.2.1 + (q - G.2.2.1) by omega) (h3 _ (by omega))
  · by_cases g2 : q < G.2.2.1 + σ.1
    · exact absurd (show q = G.2.2.1 + (q - G.2.2.1) by omega) (h3 _ (by omega))
    · omega
theorem hs_newC {q : Nat} {E : va_E} {c : PC} {H1 : Heap} (hM : s.heap.size = G.2.2.1 + n0) (hn : σ.1 = n0 + kc) (hE : E = hs_e G.2.2.1 G.2.2.2.1 c) (hP : va_P G.2.1 vwCl (hs_w G.2.2.1 G.2.2.2.1 σ ++ [(q, E)]) H1) (hD : va_D (hs_A G.2.2.1 n0 s.heap.size) (hs_w G.2.2.1 G.2.2.2.1 σ ++ [(q, E)])) (hS : va_S (hs_A G.2.2.1 n0 s.heap.size) s.heap H1 locs) (hz : H1.size ≤ s.heap.size + (kc + 1)) : q = G.2.2.1 + σ.1 ∧ hs_C G n0 (kc + 1) s H1 locs (nC σ c) := by
  have hq := hs_newq hM hn hP hD hz
  refine ⟨hq, ?_⟩
  rw [hq, hs_wpush c hE] at hP hD
  exact ⟨hP, hD, hS, by show σ.1 + 1 = n0 + (kc + 1); omega⟩
theorem hj_new {idx ci N : Nat} {C : String} {T : u_T} {K : Nat → Sto → Option (ρ × Sto)} (fs : List Value) (ty : Nat → FieldType) (hcl : Cond.classLink M.1.cls idx C ∈ hs_T) (hin : Cond.instantiable C N ∈ hs_T) (hini : Cond.initialized C ∈ hs_T) (hc : vwCl[ci]? = some (C, T, N)) (hws : ∀ w ∈ u_ws C T N, w ∈ hs_T) (hty : ∀ k, k < N → parseFieldDescriptor (T k).2.2.1 = some (ty k)) (hfs : ∀ j, j < N → defaultValue (ty j) = vp_V fs j) (hv : ∀ q, fs.map (hs_v q) = fs) (hd : decode M.2.1 pc = .ok (.new idx, 3)) (hk : kc + 1 ≤ mc) (hs : ks + N ≤ ms)
    (kk : ∀ r σ1, Sim G M h mc ms n0 inj (kc + 1) (ks + N) (pc + 3) lv (.ref r :: st) σ1 (K r σ1)) : Sim G M h mc ms n0 inj kc ks pc lv st σ (nw σ (.inr (ci, fs)) K) := by
  intro r σ' hX p e s m args below meth c H locs ls hM hC hl
  have hmc : s.heap.size = G.2.2.1 + n0 := hM.2.2.2.2.2.2.2.2.1 (by omega)
  have hts := hM.2.2.2.2.2.1
  refine va_new (ci := ci) (fs := fs) hM.1 hM.2.1 hts hws ty hty hM.2.2.2.2.1 (hts _ hcl) (hts _ hin) (hts _ hini) hM.2.2.2.2.2.2.2.2.2.1 hC.1 hC.2.1 hC.2.2.1 (fun q hq => Or.inr hq) hc hfs hk hs hd (fun q H1 hP hD hS => ?_)
  intro T0 hT0 X0
  have hz : H1.size ≤ s.heap.size + (kc + 1) := by rw [← hT0]; exact X0.same.2.2.1
  obtain ⟨hq, hC1⟩ := hs_newC (c := .inr (ci, fs)) hmc hC.2.2.2 (by show _ = Sum.inr (ci, fs.map _); rw [hv]) hP hD hS hz
  subst hq
  exact kk σ.1 (nC σ (.inr (ci, fs))) r σ' hX p e s m args below meth c H1 locs ls hM hC1 hl T0 hT0 X0
theorem hj_anew {idx t N : Nat} {C : String} {n : Int32} {K : Nat → Sto → Option (ρ × Sto)} (hcl : Cond.classLink M.1.cls idx C ∈ hs_T) (hAO : ∀ U : State, (va_AO RX5 U ∧ va_AO RX6 U ∧ va_AO RX7 U) → va_AO C U) (htt : ∀ cy : Nat → ClassId, (hs_tys cy)[t]? = some (cy t, .object C)) (hn : ¬ n < 0) (hN : n.toNatClampNeg = N) (hb : N * 4 ≤ 536870912) (hd : decode M.2.1 pc = .ok (.anewarray idx, 3)) (hk : kc + 1 ≤ mc) (hs : ks + N ≤ ms)
    (kk : ∀ r σ1, Sim G M h mc ms n0 inj (kc + 1) (ks + N) (pc + 3) lv (.ref r :: st) σ1 (K r σ1)) : Sim G M h mc ms n0 inj kc ks pc lv (.int n :: st) σ (nw σ (.inl (t, N, .inr (.inr (.inr (.inr (fun _ => none)))))) K) := by
  intro r σ' hX p e s m args below meth c H locs ls hM hC hl
  have hmc : s.heap.size = G.2.2.1 + n0 := hM.2.2.2.2.2.2.2.2.1 (by omega)
  have hts := hM.2.2.2.2.2.1
  have hXx := hM.2.2.2.2.2.2.2.2.2
  refine va_newq hM.1 hM.2.1 hM.2.2.2.2.1 (hts _ hcl) (hAO _ hXx.2.2.1) hXx.1 hC.1 hC.2.1 hC.2.2.1 (fun q hq => Or.inr hq) hn hN hb hk hs hd (fun q cA H1 hK1 hP hD hS => ?_)
  intro T0 hT0 X0
  have hz : H1.size ≤ s.heap.size + (kc + 1) := by rw [← hT0]; exact X0.same.2.2.1
  have e1 : cA = G.2.2.2.1 t := by
    obtain ⟨k1, c1, -, -, -, g1⟩ := (hK1.2 8 (cA, .object C) rfl).2
    obtain ⟨k2, c2, -, -, -, g2⟩ := (hXx.1.2 t _ (htt _)).2
    exact Option.some.inj (g1.symm.trans g2)
  subst e1
  obtain ⟨hq, hC1⟩ := hs_newC (c := .inl (t, N, .inr (.inr (.inr (.inr (fun _ => none)))))) hmc hC.2.2.2 rfl hP hD hS hz
  subst hq
  exact kk σ.1 _ r σ' hX p e s m args below meth c H1 locs ls hM hC1 hl T0 hT0 X0
theorem hj_newa {at_ : ArrayType} {ty : FieldType} {t N : Nat} {n : Int32} {K : Nat → Sto → Option (ρ × Sto)} (a0 : vp_A) (hac : Cond.arrayClass (newarray.typeOf at_) ∈ hs_T) (hty : newarray.typeOf at_ = ty) (htt : ∀ cy : Nat → ClassId, (hs_tys cy)[t]? = some (cy t, ty)) (hra : ∀ (U : State) (c1 c2 : ClassId), va_RA U c1 ty → va_RA U c2 ty → c1 = c2) (ha : ∀ cA : ClassId, vp_cell cA a0 = arrV cA N (fun _ => defaultValue ty)) (hq0 : ∀ q, hs_a q a0 = a0) (hn : ¬ n < 0) (hN : n.toNatClampNeg = N) (hb : N * componentBytes ty ≤ 536870912) (hd : decode M.2.1 pc = .ok (.newarray at_, 2)) (hk : kc + 1 ≤ mc) (hs : ks + N ≤ ms)
    (kk : ∀ r σ1, Sim G M h mc ms n0 inj (kc + 1) (ks + N) (pc + 2) lv (.ref r :: st) σ1 (K r σ1)) : Sim G M h mc ms n0 inj kc ks pc lv (.int n :: st) σ (nw σ (.inl (t, a0)) K) := by
  intro r σ' hX p e s m args below meth c H locs ls hM hC hl
  have hmc : s.heap.size = G.2.2.1 + n0 := hM.2.2.2.2.2.2.2.2.1 (by omega)
  have hts := hM.2.2.2.2.2.1
  have hXx := hM.2.2.2.2.2.2.2.2.2
  refine va_newa (a0 := a0) hM.1 hM.2.1 (hts _ hac) hty hXx.1 hC.1 hC.2.1 hC.2.2.1 (fun q hq => Or.inr hq) ha hn hN hb hk hs hd (fun q cA H1 hK1 hP hD hS => ?_)
  intro T0 hT0 X0
  have hz : H1.size ≤ s.heap.size + (kc + 1) := by rw [← hT0]; exact X0.same.2.2.1
  have e1 : cA = G.2.2.2.1 t := hra s _ _ (hK1.2 8 (cA, ty) rfl).2 (hXx.1.2 t _ (htt _)).2
  subst e1
  obtain ⟨hq, hC1⟩ := hs_newC (c := .inl (t, a0)) hmc hC.2.2.2 (by show _ = Sum.inl (_, hs_a _ a0); rw [hq0]) hP hD hS hz
  subst hq
  exact kk σ.1 _ r σ' hX p e s m args below meth c H1 locs ls hM hC1 hl T0 hT0 X0
theorem hj_oinit {idx a : Nat} (hL : Cond.methodLink M.1.cls idx objectInit ∈ hs_T) (hI : Cond.instanceMethod objectInit ∈ hs_T) (hcd : Cond.code objectInit ⟨#[0xb1]⟩ 1 none ∈ hs_T) (hd : decode M.2.1 pc = .ok (.invokespecial idx, 3)) (hh : 1 ≤ h) (hsum : (st.map fun v => v.category).sum ≤ 8) (k : Sim G M h mc ms n0 inj kc ks (pc + 3) lv st σ X) : Sim G M h mc ms n0 inj kc ks pc lv (.ref a :: st) σ X := by
  intro r σ' hX p e s m args below meth c H locs ls hM hC hl
  have hts := hM.2.2.2.2.2.1
  refine W.objInit (g := F0 m pc ls ((.ref a :: st).map (hs_v G.2.2.1))) (rest := st.map (hs_v G.2.2.1)) hM.1 hM.2.1 hM.2.2.2.2.1 (hts _ hL) (hts _ hI) (hts _ hcd) rfl (hl.1.trans hM.2.2.2.1.symm) rfl hd hh ?_ (k r σ' hX p e s m args below meth c H locs ls hM hC hl)
  have h1 := hs_catsum G.2.2.1 st
  have h2 := lv_room (m := m) (pc := pc) (ls := ls) (rest := st.map (hs_v G.2.2.1)) (st := st.map (hs_v G.2.2.1)) (by rw [h1]; exact hsum)
  show _ ≤ 64 * h
  have h3 : 2 * (F0 m pc ls ((.ref a :: st).map (hs_v G.2.2.1))).monitorRoom + ((st.map (hs_v G.2.2.1)).map fun v => v.category).sum ≤ 8 := h2
  omega
end HN
