/-! ===== CALLS ===== -/
def hs_MF (M : Mt) (n : Nat) : Prop := Cond.code M.1 M.2.1 M.2.2.1 M.2.2.2 ∈ hs_T ∧ Cond.initialized M.1.cls ∈ hs_T ∧ M.1.cls ≠ "java/lang/invoke/MethodHandle" ∧ M.1.cls ≠ "java/lang/invoke/VarHandle" ∧ (parseMethodDescriptor M.1.desc).map (fun d => d.parameters.length) = some n
def hs_ML (own : String) (idx : Nat) (y : MethodName) : Prop := Cond.methodLink own idx y ∈ hs_T ∨ ∃ host, Cond.methodLinkNest own idx y host ∈ hs_N
theorem hs_good {M : Mt} (h : Cond.code M.1 M.2.1 M.2.2.1 M.2.2.2 ∈ hs_T) : GoodIn hs_T (.code M.1 M.2.1 M.2.2.1 M.2.2.2 :: hs_T) := by
  intro w hw
  have hm : w ∈ hs_T := by
    rcases List.mem_cons.mp hw with rfl | hw
    · exact h
    · exact hw
  exact ⟨hm, good_of_word (List.mem_filter.mp hm).2⟩
section HK
variable {G : GP} {M : Mt} {h mc ms n0 : Nat} {ρ : Type} {inj : ρ → Option Value} {kc ks pc : Nat} {lv : List (Nat × Value)} {st : List Value} {σ : Sto} {X : Option (ρ × Sto)}
variable {p : Program} {e : Env} {s : State} {m : MethodId} {args : Array Value} {below : List Frame} {meth : Method} {c : Code} {H : Heap} {locs : List Loc} {ls : Array Slot} {Q : State → Prop} {R : Room}
theorem hs_AA (hC : hs_C G n0 kc s H locs σ) : ∀ a, hs_A G.2.2.1 σ.1 H.size a → hs_A G.2.2.1 n0 s.heap.size a := by
  intro a ha
  rcases ha with ⟨h1, h2⟩ | h1
  · have h3 := hC.2.1.2 (a - G.2.2.1) _ (hs_wget (by omega))
    have e1 : G.2.2.1 + (a - G.2.2.1) = a := by omega
    rw [← e1]
    exact h3
  · exact Or.inr (Nat.le_trans hC.2.2.1.1 h1)
theorem hs_size (hM : 0 < mc → s.heap.size = G.2.2.1 + n0) (hC : hs_C G n0 kc s H locs σ) (hz : H.size ≤ s.heap.size + kc) (hm : 0 < mc) : H.size = G.2.2.1 + σ.1 := by
  have h1 := hM hm
  have h2 := hC.2.2.2
  have h3 := hC.2.2.1.1
  by_cases h0 : σ.1 = 0
  · omega
  · have h4 := (hC.1 (σ.1 - 1) _ (hs_wget (by omega))).lt
    dsimp only at h4
    omega
theorem hs_after {mc' ms' : Nat} {ρ' : Type} {inj' : ρ' → Option Value} {r1 : ρ'} {σ1 : Sto} {a : Array Value} {st0 : List Value} (hrun : va_Run p G.1 e R s m args below meth c H locs kc ks mc' ms' (F0 m pc ls st0) (st.map (hs_v G.2.2.1)) (hs_Q G σ.1 mc' inj' r1 σ1 a) (hs_A G.2.2.1 σ.1 H.size)) (hC : hs_C G n0 kc s H locs σ)
    (kk : ∀ (H1 : Heap) (locs1 : List Loc), hs_C G n0 (kc + mc') s H1 locs1 σ1 → W p G.1 e R s m args below meth c H1 locs1 (kc + mc') (ks + ms') Q (F0 m (pc + 3) ls (((inj' r1).toList ++ st).map (hs_v G.2.2.1)))) : W p G.1 e R s m args below meth c H locs kc ks Q (F0 m pc ls st0) := by
  intro T hT X0
  obtain ⟨v, st₀, t, T', L, h0, X', hL, e1, e2, ⟨⟨hv, hp, hd, hn⟩, hz, hk⟩, stp⟩ := hrun T hT X0
  have hv' : v = (inj' r1).map (hs_v G.2.2.1) := by cases hv; rfl
  rw [h0] at hz hk hd
  have hAA := hs_AA hC
  have hS1 : va_S (hs_A G.2.2.1 n0 s.heap.size) s.heap t.heap (locs ++ L) := by
    refine ⟨Nat.le_trans hC.2.2.1.1 hz, fun q g1 g2 => ?_, fun q hq => ?_⟩
    · rw [hk q (Nat.lt_of_lt_of_le g1 hC.2.2.1.1) (fun z => g2 (hAA q z))]
      exact hC.2.2.1.2.1 q g1 g2
    · rcases List.mem_append.mp hq with g | g
      · exact hC.2.2.1.2.2 q g
      · exact hAA _ (hL q g)
  have hC1 : hs_C G n0 (kc + mc') s t.heap (locs ++ L) σ1 := ⟨hp, hd.weaken (fun _ _ _ g => hAA _ g), hS1, by rw [hn, hC.2.2.2]; omega⟩
  obtain ⟨t2, a1, b1⟩ := kk t.heap (locs ++ L) hC1 T' e1 X'
  refine ⟨t2, stp t2 ?_, b1⟩
  have e3 : ((inj' r1).toList ++ st).map (hs_v G.2.2.1) = v.toList ++ st.map (hs_v G.2.2.1) := by
    rw [hv', List.map_append]
    cases inj' r1 <;> rfl
  rw [e3] at a1
  exact a1
/-- the callee's start -/
theorem hs_pre {av : List Value} (hX : hs_X G (hs_A G.2.2.1 n0 s.heap.size) s s.heap) (hC : hs_C G n0 kc s H locs σ) : PreS s H (va_Pc (av.map (hs_v G.2.2.1)) (fun U => U.heap.size = H.size ∧ va_P G.2.1 vwCl (hs_w G.2.2.1 G.2.2.2.1 σ) U.heap ∧ hs_X G (hs_A G.2.2.1 σ.1 H.size) U U.heap ∧ va_D (fun _ => True) (hs_w G.2.2.1 G.2.2.2.1 σ))) (av.map (hs_v G.2.2.1)) := by
  refine ⟨fun a U g mk hq => ?_, fun U hU hW => ⟨rfl, by rw [hU], by rw [hU]; exact hC.1, ?_, hC.2.1.weaken (fun _ _ _ _ => trivial)⟩⟩
  · obtain ⟨q1, q2, q3, q4, q5⟩ := hq
    exact ⟨q1, q2, q3, hs_X.same (u := U) rfl q4, q5⟩
  · rw [hU]
    exact ((hX.kept hC.2.2.1.2.1).warm hW).narrow (hs_AA hC)
theorem hj_callV {ci idx h' : Nat} {M' : Mt} {ρ' : Type} {inj' : ρ' → Option Value} {b : Nat} {As st0 : List Value} {F : Option (ρ' × Sto)} {K : ρ' → Sto → Option (ρ × Sto)} (hF : hs_MF M' As.length) (hV : Cond.instanceMethod M'.1 ∈ hs_T ∧ Cond.selects M'.1.cls M'.1 M'.1 ∈ hs_T) (hci : ∃ T N, vwCl[ci]? = some (M'.1.cls, T, N)) (hL : hs_ML M.1.cls idx M'.1)
    (hd : decode M.2.1 pc = .ok (.invokevirtual idx, 3)) (hMe : Me G M' h' 0 0 inj' (.ref b :: As) σ F) (hck : ∀ r, F = some r → ∃ fs, hs_o σ ci b = some fs) (hR : h' + 1 ≤ h ∧ 8 + (M'.2.2.1 + 11) + 64 * h' ≤ 64 * h) (hk0 : kc ≤ mc ∧ ks ≤ ms) (hst : st0 = As.reverse ++ .ref b :: st) (hsum : (st.map fun v => v.category).sum ≤ 8)
    (kk : ∀ r σ1, F = some (r, σ1) → Sim G M h mc ms n0 inj kc ks (pc + 3) lv ((inj' r).toList ++ st) σ1 (K r σ1)) : Sim G M h mc ms n0 inj kc ks pc lv st0 σ (cb F K) := by
  intro r σ' hX p e s m args below meth c H locs ls hM hC hl
  obtain ⟨⟨r1, σ1⟩, hF1, hX⟩ := bindE hX
  subst hst
  have hMet := hMe r1 σ1 hF1 H.size (fun z => absurd z (Nat.lt_irrefl 0))
  obtain ⟨fs, ho⟩ := hck _ hF1
  obtain ⟨T, N, hc⟩ := hci
  obtain ⟨f1, f2, f3, f4, f5⟩ := hF
  have hts := hM.2.2.2.2.2.1
  have hpre := hs_pre (av := .ref b :: As) hM.2.2.2.2.2.2.2.2.2 hC
  have hrecv := va_recv hM.2.2.2.2.2.2.2.2.2.1 hC.1 hc (hs_oat ho)
  have hstk : (As.reverse ++ .ref b :: st).map (hs_v G.2.2.1) = (As.map (hs_v G.2.2.1)).reverse ++ .ref (G.2.2.1 + b) :: st.map (hs_v G.2.2.1) := by simp [hs_v]
  have hsum' : ((st.map (hs_v G.2.2.1)).map fun v => v.category).sum ≤ 8 := by rw [hs_catsum]; exact hsum
  have hrun : va_Run p G.1 e (hs_R h mc ms) s m args below meth c H locs kc ks 0 0 (F0 m pc ls ((As.reverse ++ .ref b :: st).map (hs_v G.2.2.1))) (st.map (hs_v G.2.2.1)) (hs_Q G σ.1 0 inj' r1 σ1 (Value.ref (G.2.2.1 + b) :: As.map (hs_v G.2.2.1)).toArray) (hs_A G.2.2.1 σ.1 H.size) := by
    rcases hL with hL | ⟨host, hL⟩
    · exact va_runV (As := As.map (hs_v G.2.2.1)) (n := As.length) (Ts := hs_T) (own := M.1.cls) (C := M'.1.cls) (b := G.2.2.1 + b) ⟨hM.1, hM.2.1, hM.2.2.2.1, hM.2.2.2.2.1, hts⟩ hMet ⟨callB_of As.length hts (hs_good f1) rfl rfl rfl (hts _ f2) (hts _ hL) ⟨f3, f4, f5⟩ hR, hts _ hV.1, hts _ hV.2⟩ ⟨hpre.1, hrecv, hpre.2⟩ rfl (by rw [List.length_map]) hl.1 hstk (lv_room hsum') hd ⟨hk0.1, hk0.2⟩
    · exact va_runVN (As := As.map (hs_v G.2.2.1)) (n := As.length) (Ts := hs_T) (own := M.1.cls) (C := M'.1.cls) (host := host) (b := G.2.2.1 + b) ⟨hM.1, hM.2.1, hM.2.2.2.1, hM.2.2.2.2.1, hts⟩ hMet ⟨va_cnB As.length hts (hs_good f1) rfl rfl rfl (hM.2.2.2.2.2.2.2.2.2.2.1 _ hL) (hts _ f2) ⟨f3, f4, f5⟩ hR, hts _ hV.1, hts _ hV.2⟩ ⟨hpre.1, hrecv, hpre.2⟩ rfl (by rw [List.length_map]) hl.1 hstk (lv_room hsum') hd ⟨hk0.1, hk0.2⟩
  exact hs_after hrun hC (fun H1 locs1 hC1 => kk r1 σ1 hF1 r σ' hX p e s m args below meth c H1 locs1 ls hM hC1 hl)
theorem hj_callS {idx h' : Nat} {M' : Mt} {ρ' : Type} {inj' : ρ' → Option Value} {As st0 : List Value} {F : Option (ρ' × Sto)} {K : ρ' → Sto → Option (ρ × Sto)} (hF : hs_MF M' As.length) (hV : Cond.static M'.1 ∈ hs_T) (hL : Cond.methodLink M.1.cls idx M'.1 ∈ hs_T)
    (hd : decode M.2.1 pc = .ok (.invokestatic idx, 3)) (hMe : Me G M' h' 0 0 inj' As σ F) (hR : h' + 1 ≤ h ∧ 8 + (M'.2.2.1 + 11) + 64 * h' ≤ 64 * h) (hk0 : kc ≤ mc ∧ ks ≤ ms) (hst : st0 = As.reverse ++ st) (hsum : (st.map fun v => v.category).sum ≤ 8)
    (kk : ∀ r σ1, F = some (r, σ1) → Sim G M h mc ms n0 inj kc ks (pc + 3) lv ((inj' r).toList ++ st) σ1 (K r σ1)) : Sim G M h mc ms n0 inj kc ks pc lv st0 σ (cb F K) := by
  intro r σ' hX p e s m args below meth c H locs ls hM hC hl
  obtain ⟨⟨r1, σ1⟩, hF1, hX⟩ := bindE hX
  subst hst
  have hMet := hMe r1 σ1 hF1 H.size (fun z => absurd z (Nat.lt_irrefl 0))
  obtain ⟨f1, f2, f3, f4, f5⟩ := hF
  have hts := hM.2.2.2.2.2.1
  have hpre := hs_pre (av := As) hM.2.2.2.2.2.2.2.2.2 hC
  have hstk : (As.reverse ++ st).map (hs_v G.2.2.1) = (As.map (hs_v G.2.2.1)).reverse ++ st.map (hs_v G.2.2.1) := by simp
  have hsum' : ((st.map (hs_v G.2.2.1)).map fun v => v.category).sum ≤ 8 := by rw [hs_catsum]; exact hsum
  have hrun : va_Run p G.1 e (hs_R h mc ms) s m args below meth c H locs kc ks 0 0 (F0 m pc ls ((As.reverse ++ st).map (hs_v G.2.2.1))) (st.map (hs_v G.2.2.1)) (hs_Q G σ.1 0 inj' r1 σ1 (As.map (hs_v G.2.2.1)).toArray) (hs_A G.2.2.1 σ.1 H.size) :=
    va_runS (As := As.map (hs_v G.2.2.1)) (n := As.length) (Ts := hs_T) (own := M.1.cls) ⟨hM.1, hM.2.1, hM.2.2.2.1, hM.2.2.2.2.1, hts⟩ hMet ⟨callB_of As.length hts (hs_good f1) rfl rfl rfl (hts _ f2) (hts _ hL) ⟨f3, f4, f5⟩ hR, hts _ hV⟩ hpre rfl (by rw [List.length_map]) hl.1 hstk (lv_room hsum') hd ⟨hk0.1, hk0.2⟩
  exact hs_after hrun hC (fun H1 locs1 hC1 => kk r1 σ1 hF1 r σ' hX p e s m args below meth c H1 locs1 ls hM hC1 hl)
theorem hj_callI {idx h' mc' ms' : Nat} {M' : Mt} {ρ' : Type} {inj' : ρ' → Option Value} {b : Nat} {As st0 : List Value} {F : Option (ρ' × Sto)} {K : ρ' → Sto → Option (ρ × Sto)} (hF : hs_MF M' As.length) (hV : Cond.instanceMethod M'.1 ∈ hs_T) (hr : M'.2.2.2 = none) (hnm : M'.1.name = "<init>") (hL : hs_ML M.1.cls idx M'.1)
    (hd : decode M.2.1 pc = .ok (.invokespecial idx, 3)) (hMe : Me G M' h' mc' ms' inj' (.ref b :: As) σ F) (hR : h' + 1 ≤ h ∧ 8 + (M'.2.2.1 + 11) + 64 * h' ≤ 64 * h) (hk0 : kc + mc' ≤ mc ∧ ks + ms' ≤ ms) (hst : st0 = As.reverse ++ .ref b :: st) (hsum : (st.map fun v => v.category).sum ≤ 8)
    (kk : ∀ r σ1, F = some (r, σ1) → Sim G M h mc ms n0 inj (kc + mc') (ks + ms') (pc + 3) lv ((inj' r).toList ++ st) σ1 (K r σ1)) : Sim G M h mc ms n0 inj kc ks pc lv st0 σ (cb F K) := by
  intro r σ' hX p e s m args below meth c H locs ls hM hC hl T0 hT0 X0
  obtain ⟨⟨r1, σ1⟩, hF1, hX⟩ := bindE hX
  subst hst
  have hz : H.size ≤ s.heap.size + kc := by rw [← hT0]; exact X0.same.2.2.1
  have hMet := hMe r1 σ1 hF1 H.size (fun z => hs_size (mc := mc) hM.2.2.2.2.2.2.2.2.1 hC hz (by omega))
  obtain ⟨y', cc', nL', ret'⟩ := M'
  dsimp only at hr hnm
  subst hr
  obtain ⟨f1, f2, f3, f4, f5⟩ := hF
  have hts := hM.2.2.2.2.2.1
  have hpre := hs_pre (av := .ref b :: As) hM.2.2.2.2.2.2.2.2.2 hC
  have hstk : (As.reverse ++ .ref b :: st).map (hs_v G.2.2.1) = (As.map (hs_v G.2.2.1)).reverse ++ .ref (G.2.2.1 + b) :: st.map (hs_v G.2.2.1) := by simp [hs_v]
  have hsum' : ((st.map (hs_v G.2.2.1)).map fun v => v.category).sum ≤ 8 := by rw [hs_catsum]; exact hsum
  have hrun : va_Run p G.1 e (hs_R h mc ms) s m args below meth c H locs kc ks mc' ms' (F0 m pc ls ((As.reverse ++ .ref b :: st).map (hs_v G.2.2.1))) (st.map (hs_v G.2.2.1)) (hs_Q G σ.1 mc' inj' r1 σ1 (Value.ref (G.2.2.1 + b) :: As.map (hs_v G.2.2.1)).toArray) (hs_A G.2.2.1 σ.1 H.size) := by
    rcases hL with hL | ⟨host, hL⟩
    · exact va_runI (As := As.map (hs_v G.2.2.1)) (n := As.length) (Ts := hs_T) (own := M.1.cls) (b := G.2.2.1 + b) ⟨hM.1, hM.2.1, hM.2.2.2.1, hM.2.2.2.2.1, hts⟩ hMet ⟨callB_of As.length hts (hs_good f1) rfl rfl rfl (hts _ f2) (hts _ hL) ⟨f3, f4, f5⟩ hR, hnm, hts _ hV⟩ hpre rfl (by rw [List.length_map]) hl.1 hstk (lv_room hsum') hd ⟨hk0.1, hk0.2⟩
    · exact va_runIN (As := As.map (hs_v G.2.2.1)) (n := As.length) (Ts := hs_T) (own := M.1.cls) (host := host) (b := G.2.2.1 + b) ⟨hM.1, hM.2.1, hM.2.2.2.1, hM.2.2.2.2.1, hts⟩ hMet ⟨va_cnB As.length hts (hs_good f1) rfl rfl rfl (hM.2.2.2.2.2.2.2.2.2.2.1 _ hL) (hts _ f2) ⟨f3, f4, f5⟩ hR, hnm, hts _ hV⟩ hpre rfl (by rw [List.length_map]) hl.1 hstk (lv_room hsum') hd ⟨hk0.1, hk0.2⟩
  exact hs_after hrun hC (fun H1 locs1 hC1 => kk r1 σ1 hF1 r σ' hX p e s m args below meth c H1 locs1 ls hM hC1 hl) T0 hT0 X0
/-- a contract out of a walk, also for a method of a JDK class that no native row stands for -/
theorem hs_ofW {l : Launch} {y : MethodName} {ws ws' : List Cond} {rm : Room} {Pc : Array Value → State → Prop} {Qc : Array Value → State → Outcome → State → Prop} {mc ms : Nat} {free : Addr → Prop} {cc : ByteArray} {maxL : Nat} {ret : Option FieldType} (hy : plainFor y = true) (hw : ws = Cond.code y cc maxL ret :: ws')
    (bd : ∀ p e s m args below meth c s₁, BodyLoose p l y (headSpec ws rm) cc maxL ret e s m args below meth c s₁ → c.maxLocals = maxL → Pc args s → W p l e (headSpec ws rm).room s m args below meth c s.heap [] 0 0 (MQ below Qc args s mc ms free) (entryFrame m args maxL)) : Met l y ws rm Pc Qc mc ms free := by
  apply MetFree.of_bodySF (code := cc) (maxLocals := maxL) (ret := ret) hy
  · intro args s m hp hn
    have hcode := atoms_spec (ws := ws) hp (Cond.code y cc maxL ret) (by rw [hw]; exact List.mem_cons_self)
    obtain ⟨meth, c, g1, g2, g3, g4, g5, g6, -⟩ := Cond.code_spec hn hcode
    exact ⟨meth, c, g1, g2, g3, g4, g5, g6⟩
  · intro p e s m args below meth c s₁ B hml hP _
    have hheap : s₁.heap = s.heap := by rw [B.state]; rfl
    obtain ⟨t, g1, o, g2, g3, g4⟩ := bd p e s m args below meth c s₁ B hml hP s₁ hheap (Stand.of_body B)
    exact ⟨t, o, g1, g2, g3, g4.1, g4.2⟩
/-- a method's contract out of its walk -/
theorem hs_me {av : List Value} {lv : List (Nat × Value)} (hy : plainFor M.1 = true) (hlen : (lg_sl (av.map (hs_v G.2.2.1))).length ≤ M.2.2.1) (hlv : lv_args 0 (av.map (hs_v G.2.2.1)) = hs_L G.2.2.1 lv) (k : Sim G M h mc ms σ.1 inj 0 0 0 lv [] σ X) : Me G M h mc ms inj av σ X := by
  intro r σ' hX sz hsz
  refine hs_ofW (cc := M.2.1) (maxL := M.2.2.1) (ret := M.2.2.2) hy rfl ?_
  intro p e s m args below meth c s₁ B hml hv
  obtain ⟨rfl, hz, hP, hXx, hD0⟩ := hv
  subst hz
  have hts := atoms_spec (ws := .code M.1 M.2.1 M.2.2.1 M.2.2.2 :: hs_T) B.pre
  have hl := lv_entry (av.map (hs_v G.2.2.1)) hlen
  rw [hlv] at hl
  rw [lg_entry_eq]
  have hD : va_D (hs_A G.2.2.1 σ.1 s.heap.size) (hs_w G.2.2.1 G.2.2.2.1 σ) := ⟨hD0.1, fun k q hk => by
    obtain ⟨g1, g2⟩ := hs_wat hk
    rw [g2]
    exact Or.inl ⟨by dsimp only; omega, by dsimp only; omega⟩⟩
  exact k r σ' hX p e s m _ below meth c s.heap [] _ ⟨B.exec, B.bytes, B.returns, hml, findClass_of_methodNamed B.named, fun w hw => hts w (List.mem_cons_of_mem _ hw), B.notSynchronized, (name_of_methodNamed B.named B.method).1, hsz, hXx⟩ ⟨hP, hD, va_S.rf, rfl⟩ hl
end HK
