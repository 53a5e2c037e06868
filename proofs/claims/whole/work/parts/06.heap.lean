/-! ===== FIELDS ===== -/
def hs_FK (own : String) (idx : Nat) (f : String × String × String × Bool) : Prop := Cond.fieldLink own idx f.1 f.2.1 f.2.2.1 ∈ hs_T ∨ ∃ host, Cond.fieldLinkNest own idx f.1 f.2.1 f.2.2.1 host ∈ hs_N
def hs_FL (own : String) (idx ci k : Nat) : Prop := ∃ (C : String) (T : u_T) (N : Nat), vwCl[ci]? = some (C, T, N) ∧ (∀ w ∈ u_ws C T N, w ∈ hs_T) ∧ k < N ∧ hs_FK own idx (T k)
def hs_FP (own nm : String) (idx ci k : Nat) (ty : FieldType) : Prop := ∃ (C : String) (T : u_T) (N : Nat) (ty0 : Nat → FieldType), vwCl[ci]? = some (C, T, N) ∧ (∀ w ∈ u_ws C T N, w ∈ hs_T) ∧ (∀ k, k < N → parseFieldDescriptor (T k).2.2.1 = some (ty0 k)) ∧ (∀ a, a < N → ∀ b, b < N → a ≠ b → (T a).2.1 ≠ (T b).2.1) ∧ k < N ∧ parseFieldDescriptor (T k).2.2.1 = some ty ∧
  (((T k).2.2.2 = false ∧ hs_FK own idx (T k)) ∨ ((T k).2.2.2 = true ∧ Cond.fieldLink own idx (T k).1 (T k).2.1 (T k).2.2.1 ∈ hs_T ∧ (T k).1 = own ∧ nm = "<init>"))
section HH
variable {G : GP} {M : Mt} {h mc ms n0 : Nat} {ρ : Type} {inj : ρ → Option Value} {kc ks pc : Nat} {lv : List (Nat × Value)} {st : List Value} {σ : Sto} {X : Option (ρ × Sto)}
variable {p : Program} {e : Env} {s : State} {m : MethodId} {args : Array Value} {below : List Frame} {meth : Method} {c : Code} {H : Heap} {locs : List Loc} {ls : Array Slot} {Q : State → Prop} {rest : List Value} {cells slots : Nat} {R : Room}
theorem hs_oat {ci a : Nat} {fs : List Value} (ho : hs_o σ ci a = some fs) : (hs_w G.2.2.1 G.2.2.2.1 σ)[a]? = some (G.2.2.1 + a, .inr (ci, fs.map (hs_v G.2.2.1))) := by
  obtain ⟨h1, h2⟩ := hs_o_of ho
  rw [hs_wget h1, h2]
  rfl
theorem hs_rat {t a : Nat} {x : vp_A} (ho : hs_r σ t a = some x) : (hs_w G.2.2.1 G.2.2.2.1 σ)[a]? = some (G.2.2.1 + a, .inl (G.2.2.2.1 t, hs_a G.2.2.1 x)) := by
  obtain ⟨h1, h2⟩ := hs_r_of ho
  rw [hs_wget h1, h2]
  rfl
theorem hs_getW {ci idx a k : Nat} {fs : List Value} {v : Value} (hM : hs_M G M mc n0 p s m args meth c) (hC : hs_C G n0 kc s H locs σ) (hL : hs_FL M.1.cls idx ci k) (ho : hs_o σ ci a = some fs) (hv : fs[k]? = some v) (hd : decode M.2.1 pc = .ok (.getfield idx, 3))
    (kk : W p G.1 e R s m args below meth c H locs cells slots Q (F0 m (pc + 3) ls (hs_v G.2.2.1 v :: rest))) : W p G.1 e R s m args below meth c H locs cells slots Q (F0 m pc ls (.ref (G.2.2.1 + a) :: rest)) := by
  obtain ⟨C, T, N, hc, hin, hk, hl⟩ := hL
  have hv' : (fs.map (hs_v G.2.2.1))[k]? = some (hs_v G.2.2.1 v) := by rw [List.getElem?_map, hv]; rfl
  rcases hl with hl | ⟨host, hl⟩
  · exact va_get (ref := (T k).1) hM.1 hM.2.1 hM.2.2.2.2.2.1 hin hM.2.2.2.2.1 hM.2.2.2.2.2.2.2.2.2.1 hC.1 a (hs_oat ho) hc k hk (hM.2.2.2.2.2.1 _ hl) (fun _ x => x) hv' hd kk
  · exact va_getN (ref := (T k).1) (host := host) hM.1 hM.2.1 hM.2.2.2.2.2.1 hin hM.2.2.2.2.1 hM.2.2.2.2.2.2.2.2.2.1 hC.1 a (hs_oat ho) hc k hk (va_Nw.use rfl (hM.2.2.2.2.2.2.2.2.2.2.1 _ hl)) (fun _ x => x) hv' hd kk
theorem hs_putW {ci idx a k : Nat} {fs : List Value} {v : Value} {ty : FieldType} (hM : hs_M G M mc n0 p s m args meth c) (hC : hs_C G n0 kc s H locs σ) (hL : hs_FP M.1.cls M.1.name idx ci k ty) (ho : hs_o σ ci a = some fs) (hk2 : k < fs.length) (hn : narrow ty (hs_v G.2.2.1 v) = hs_v G.2.2.1 v) (hf : fits ty (hs_v G.2.2.1 v) = true) (hd : decode M.2.1 pc = .ok (.putfield idx, 3))
    (kk : ∀ (H1 : Heap) (locs1 : List Loc), hs_C G n0 kc s H1 locs1 (σ.1, va_up σ.2 a (.inr (ci, fs.set k v))) → W p G.1 e R s m args below meth c H1 locs1 cells slots Q (F0 m (pc + 3) ls rest)) : W p G.1 e R s m args below meth c H locs cells slots Q (F0 m pc ls (hs_v G.2.2.1 v :: .ref (G.2.2.1 + a) :: rest)) := by
  obtain ⟨C, T, N, ty0, hc, hin, hty, hnm, hk, hpd, hl⟩ := hL
  have hl2 : k < (fs.map (hs_v G.2.2.1)).length := by rw [List.length_map]; exact hk2
  have hset : (hs_w G.2.2.1 G.2.2.2.1 σ).set a (G.2.2.1 + a, .inr (ci, (fs.map (hs_v G.2.2.1)).set k (hs_v G.2.2.1 v))) = hs_w G.2.2.1 G.2.2.2.1 (σ.1, va_up σ.2 a (.inr (ci, fs.set k v))) := hs_wset _ (by rw [← List.map_set]; rfl)
  have fin : ∀ (H1 : Heap) (locs1 : List Loc), va_P G.2.1 vwCl ((hs_w G.2.2.1 G.2.2.2.1 σ).set a (G.2.2.1 + a, .inr (ci, (fs.map (hs_v G.2.2.1)).set k (hs_v G.2.2.1 v)))) H1 → va_D (hs_A G.2.2.1 n0 s.heap.size) ((hs_w G.2.2.1 G.2.2.2.1 σ).set a (G.2.2.1 + a, .inr (ci, (fs.map (hs_v G.2.2.1)).set k (hs_v G.2.2.1 v)))) → va_S (hs_A G.2.2.1 n0 s.heap.size) s.heap H1 locs1 → W p G.1 e R s m args below meth c H1 locs1 cells slots Q (F0 m (pc + 3) ls rest) := by
    intro H1 locs1 hP hD hS
    rw [hset] at hP hD
    exact kk H1 locs1 ⟨hP, hD, hS, hC.2.2.2⟩
  rcases hl with ⟨hfi, hl | ⟨host, hl⟩⟩ | ⟨hfi, hl, ho2, hnn⟩
  · exact va_put (ref := (T k).1) hM.1 hM.2.1 hM.2.2.2.2.2.1 hin ty0 hty hnm hM.2.2.2.2.1 hM.2.2.2.2.2.2.2.2.2.1 hC.1 hC.2.1 hC.2.2.1 a (hs_oat ho) hc k hk (hM.2.2.2.2.2.1 _ hl) (fun _ x => x) hfi hpd hn hf hl2 hd fin
  · exact va_putN (ref := (T k).1) (host := host) hM.1 hM.2.1 hM.2.2.2.2.2.1 hin ty0 hty hnm hM.2.2.2.2.1 hM.2.2.2.2.2.2.2.2.2.1 hC.1 hC.2.1 hC.2.2.1 a (hs_oat ho) hc k hk (va_Nw.use rfl (hM.2.2.2.2.2.2.2.2.2.2.1 _ hl)) (fun _ x => x) hfi hpd hn hf hl2 hd fin
  · exact va_putF (ref := (T k).1) hM.1 hM.2.1 hM.2.2.2.2.2.1 hin ty0 hty hnm hM.2.2.2.2.1 hM.2.2.2.2.2.2.2.2.2.1 hC.1 hC.2.1 hC.2.2.1 a (hs_oat ho) hc k hk (hM.2.2.2.2.2.1 _ hl) (fun _ x => x) hfi (hM.2.2.2.2.2.2.2.1.trans hnn) ho2 hpd hn hf hl2 hd fin
theorem gI_of {ci a k : Nat} {v : Int32} (e : gI σ ci a k = some v) : ∃ fs, hs_o σ ci a = some fs ∧ fs[k]? = some (.int v) := by
  unfold gI at e
  cases ho : hs_o σ ci a with
  | none => rw [ho] at e; cases e
  | some fs =>
    rw [ho] at e
    refine ⟨fs, rfl, ?_⟩
    dsimp only at e
    split at e
    · rename_i w h1; cases e; exact h1
    · cases e
theorem gL_of {ci a k : Nat} {v : Int64} (e : gL σ ci a k = some v) : ∃ fs, hs_o σ ci a = some fs ∧ fs[k]? = some (.long v) := by
  unfold gL at e
  cases ho : hs_o σ ci a with
  | none => rw [ho] at e; cases e
  | some fs =>
    rw [ho] at e
    refine ⟨fs, rfl, ?_⟩
    dsimp only at e
    split at e
    · rename_i w h1; cases e; exact h1
    · cases e
theorem gR_of {ci a k : Nat} {v : Nat} (e : gR σ ci a k = some v) : ∃ fs, hs_o σ ci a = some fs ∧ fs[k]? = some (.ref v) := by
  unfold gR at e
  cases ho : hs_o σ ci a with
  | none => rw [ho] at e; cases e
  | some fs =>
    rw [ho] at e
    refine ⟨fs, rfl, ?_⟩
    dsimp only at e
    split at e
    · rename_i w h1; cases e; exact h1
    · cases e
theorem pV_of {ci a k : Nat} {v : Value} {σ1 : Sto} (e : pV σ ci a k v = some σ1) : ∃ fs, hs_o σ ci a = some fs ∧ k < fs.length ∧ σ1 = (σ.1, va_up σ.2 a (.inr (ci, fs.set k v))) := by
  unfold pV at e
  cases ho : hs_o σ ci a with
  | none => rw [ho] at e; cases e
  | some fs =>
    rw [ho] at e
    dsimp only at e
    split at e
    · rename_i h1; cases e; exact ⟨fs, rfl, h1, rfl⟩
    · cases e
theorem hj_getI {ci a k idx : Nat} {K : Int32 → Option (ρ × Sto)} (hL : hs_FL M.1.cls idx ci k) (hd : decode M.2.1 pc = .ok (.getfield idx, 3)) (kk : ∀ v, gI σ ci a k = some v → Sim G M h mc ms n0 inj kc ks (pc + 3) lv (.int v :: st) σ (K v)) : Sim G M h mc ms n0 inj kc ks pc lv (.ref a :: st) σ ((gI σ ci a k).bind K) := by
  intro r σ' hX p e s m args below meth c H locs ls hM hC hl
  obtain ⟨v, hv, hX⟩ := bindE hX
  obtain ⟨fs, h1, h2⟩ := gI_of hv
  exact hs_getW hM hC hL h1 h2 hd (kk v hv r σ' hX p e s m args below meth c H locs ls hM hC hl)
theorem hj_getL {ci a k idx : Nat} {K : Int64 → Option (ρ × Sto)} (hL : hs_FL M.1.cls idx ci k) (hd : decode M.2.1 pc = .ok (.getfield idx, 3)) (kk : ∀ v, gL σ ci a k = some v → Sim G M h mc ms n0 inj kc ks (pc + 3) lv (.long v :: st) σ (K v)) : Sim G M h mc ms n0 inj kc ks pc lv (.ref a :: st) σ ((gL σ ci a k).bind K) := by
  intro r σ' hX p e s m args below meth c H locs ls hM hC hl
  obtain ⟨v, hv, hX⟩ := bindE hX
  obtain ⟨fs, h1, h2⟩ := gL_of hv
  exact hs_getW hM hC hL h1 h2 hd (kk v hv r σ' hX p e s m args below meth c H locs ls hM hC hl)
theorem hj_getR {ci a k idx : Nat} {K : Nat → Option (ρ × Sto)} (hL : hs_FL M.1.cls idx ci k) (hd : decode M.2.1 pc = .ok (.getfield idx, 3)) (kk : ∀ v, gR σ ci a k = some v → Sim G M h mc ms n0 inj kc ks (pc + 3) lv (.ref v :: st) σ (K v)) : Sim G M h mc ms n0 inj kc ks pc lv (.ref a :: st) σ ((gR σ ci a k).bind K) := by
  intro r σ' hX p e s m args below meth c H locs ls hM hC hl
  obtain ⟨v, hv, hX⟩ := bindE hX
  obtain ⟨fs, h1, h2⟩ := gR_of hv
  exact hs_getW hM hC hL h1 h2 hd (kk v hv r σ' hX p e s m args below meth c H locs ls hM hC hl)
theorem hj_put {ci a k idx : Nat} {v : Value} {ty : FieldType} {K : Sto → Option (ρ × Sto)} (hL : hs_FP M.1.cls M.1.name idx ci k ty) (hn : ∀ q, narrow ty (hs_v q v) = hs_v q v) (hf : ∀ q, fits ty (hs_v q v) = true) (hd : decode M.2.1 pc = .ok (.putfield idx, 3)) (kk : ∀ σ1, pV σ ci a k v = some σ1 → Sim G M h mc ms n0 inj kc ks (pc + 3) lv st σ1 (K σ1)) : Sim G M h mc ms n0 inj kc ks pc lv (v :: .ref a :: st) σ ((pV σ ci a k v).bind K) := by
  intro r σ' hX p e s m args below meth c H locs ls hM hC hl
  obtain ⟨σ1, hv, hX⟩ := bindE hX
  obtain ⟨fs, h1, h2, h3⟩ := pV_of hv
  refine hs_putW hM hC hL h1 h2 (hn _) (hf _) hd (fun H1 locs1 hC1 => ?_)
  rw [← h3] at hC1
  exact kk σ1 hv r σ' hX p e s m args below meth c H1 locs1 ls hM hC1 hl
/-! ===== ARRAYS ===== -/
theorem aI_of {t a : Nat} {i v : Int32} (e : aI σ t a i = some v) : ∃ n f, hs_r σ t a = some (n, .inl f) ∧ vp_in i n ∧ v = f i.toNatClampNeg := by
  unfold aI at e
  split at e
  · rename_i n f h1
    split at e
    · cases e
    · rename_i h2; cases e; exact ⟨n, f, h1, h2, rfl⟩
  · cases e
theorem aL_of {t a : Nat} {i : Int32} {v : Int64} (e : aL σ t a i = some v) : ∃ n f, hs_r σ t a = some (n, .inr (.inl f)) ∧ vp_in i n ∧ v = f i.toNatClampNeg := by
  unfold aL at e
  split at e
  · rename_i n f h1
    split at e
    · cases e
    · rename_i h2; cases e; exact ⟨n, f, h1, h2, rfl⟩
  · cases e
theorem aR_of {t a : Nat} {i : Int32} {v : Nat} (e : aR σ t a i = some v) : ∃ n f, hs_r σ t a = some (n, .inr (.inr (.inr (.inr f)))) ∧ vp_in i n ∧ f i.toNatClampNeg = some v := by
  unfold aR at e
  split at e
  · rename_i n f h1
    split at e
    · cases e
    · rename_i h2; exact ⟨n, f, h1, h2, e⟩
  · cases e
theorem sI_of {t a : Nat} {i x : Int32} {σ1 : Sto} (e : sI σ t a i x = some σ1) : ∃ n f, hs_r σ t a = some (n, .inl f) ∧ vp_in i n ∧ σ1 = (σ.1, va_up σ.2 a (.inl (t, n, .inl (upd f i.toNatClampNeg (hs_nar t x))))) := by
  unfold sI at e
  split at e
  · rename_i n f h1
    split at e
    · cases e
    · rename_i h2; cases e; exact ⟨n, f, h1, h2, rfl⟩
  · cases e
theorem sL_of {t a : Nat} {i : Int32} {x : Int64} {σ1 : Sto} (e : sL σ t a i x = some σ1) : ∃ n f, hs_r σ t a = some (n, .inr (.inl f)) ∧ vp_in i n ∧ σ1 = (σ.1, va_up σ.2 a (.inl (t, n, .inr (.inl (vp_updL f i.toNatClampNeg x))))) := by
  unfold sL at e
  split at e
  · rename_i n f h1
    split at e
    · cases e
    · rename_i h2; cases e; exact ⟨n, f, h1, h2, rfl⟩
  · cases e
theorem sR_of {t ci a : Nat} {i : Int32} {x : Nat} {σ1 : Sto} (e : sR σ t ci a i x = some σ1) : ∃ n f fs, hs_r σ t a = some (n, .inr (.inr (.inr (.inr f)))) ∧ hs_o σ ci x = some fs ∧ vp_in i n ∧ σ1 = (σ.1, va_up σ.2 a (.inl (t, n, .inr (.inr (.inr (.inr (va_up f i.toNatClampNeg (some x)))))))) := by
  unfold sR at e
  split at e
  · rename_i n f fs h1 h0
    split at e
    · cases e
    · rename_i h2; cases e; exact ⟨n, f, fs, h1, h0, h2, rfl⟩
  · cases e
theorem hs_C.arr {a t n : Nat} {y : vp_A} {H1 : Heap} {locs1 : List Loc} {E : va_E} (hC : hs_C G n0 kc s H locs σ) (hE : E = hs_e G.2.2.1 G.2.2.2.1 (.inl (t, y))) (hP : va_P G.2.1 vwCl ((hs_w G.2.2.1 G.2.2.2.1 σ).set a (G.2.2.1 + a, E)) H1) (hD : va_D (hs_A G.2.2.1 n0 s.heap.size) ((hs_w G.2.2.1 G.2.2.2.1 σ).set a (G.2.2.1 + a, E))) (hS : va_S (hs_A G.2.2.1 n0 s.heap.size) s.heap H1 locs1) : hs_C G n0 kc s H1 locs1 (σ.1, va_up σ.2 a (.inl (t, y))) := by
  rw [hs_wset (.inl (t, y)) hE] at hP hD
  exact ⟨hP, hD, hS, hC.2.2.2⟩
theorem hj_iald {a : Nat} {i : Int32} {K : Int32 → Option (ρ × Sto)} (hd : decode M.2.1 pc = .ok (.iaload, 1)) (kk : ∀ v, aI σ 2 a i = some v → Sim G M h mc ms n0 inj kc ks (pc + 1) lv (.int v :: st) σ (K v)) : Sim G M h mc ms n0 inj kc ks pc lv (.int i :: .ref a :: st) σ ((aI σ 2 a i).bind K) := by
  intro r σ' hX p e s m args below meth c H locs ls hM hC hl
  obtain ⟨v, hv, hX⟩ := bindE hX
  obtain ⟨n, f, h1, h2, h3⟩ := aI_of hv
  refine va_iald hM.1 hM.2.1 hM.2.2.2.2.2.2.2.2.2.1 hC.1 a 2 (hs_rat h1) rfl h2 hd ?_
  rw [← h3]
  exact kk v hv r σ' hX p e s m args below meth c H locs ls hM hC hl
theorem hj_bald {a : Nat} {i : Int32} {K : Int32 → Option (ρ × Sto)} (hd : decode M.2.1 pc = .ok (.baload, 1)) (kk : ∀ v, aI σ 0 a i = some v → Sim G M h mc ms n0 inj kc ks (pc + 1) lv (.int v :: st) σ (K v)) : Sim G M h mc ms n0 inj kc ks pc lv (.int i :: .ref a :: st) σ ((aI σ 0 a i).bind K) := by
  intro r σ' hX p e s m args below meth c H locs ls hM hC hl
  obtain ⟨v, hv, hX⟩ := bindE hX
  obtain ⟨n, f, h1, h2, h3⟩ := aI_of hv
  refine va_bald hM.1 hM.2.1 hM.2.2.2.2.2.2.2.2.2.1 hC.1 a 0 (hs_rat h1) rfl h2 hd ?_
  rw [← h3]
  exact kk v hv r σ' hX p e s m args below meth c H locs ls hM hC hl
theorem hj_zald {a : Nat} {i : Int32} {K : Int32 → Option (ρ × Sto)} (hd : decode M.2.1 pc = .ok (.baload, 1)) (kk : ∀ v, aI σ 4 a i = some v → Sim G M h mc ms n0 inj kc ks (pc + 1) lv (.int v :: st) σ (K v)) : Sim G M h mc ms n0 inj kc ks pc lv (.int i :: .ref a :: st) σ ((aI σ 4 a i).bind K) := by
  intro r σ' hX p e s m args below meth c H locs ls hM hC hl
  obtain ⟨v, hv, hX⟩ := bindE hX
  obtain ⟨n, f, h1, h2, h3⟩ := aI_of hv
  refine va_zald hM.1 hM.2.1 hM.2.2.2.2.2.2.2.2.2.1 hC.1 a 4 (hs_rat h1) rfl h2 hd ?_
  rw [← h3]
  exact kk v hv r σ' hX p e s m args below meth c H locs ls hM hC hl
theorem hj_cald {a : Nat} {i : Int32} {K : Int32 → Option (ρ × Sto)} (hd : decode M.2.1 pc = .ok (.caload, 1)) (kk : ∀ v, aI σ 1 a i = some v → Sim G M h mc ms n0 inj kc ks (pc + 1) lv (.int v :: st) σ (K v)) : Sim G M h mc ms n0 inj kc ks pc lv (.int i :: .ref a :: st) σ ((aI σ 1 a i).bind K) := by
  intro r σ' hX p e s m args below meth c H locs ls hM hC hl
  obtain ⟨v, hv, hX⟩ := bindE hX
  obtain ⟨n, f, h1, h2, h3⟩ := aI_of hv
  refine va_cald hM.1 hM.2.1 hM.2.2.2.2.2.2.2.2.2.1 hC.1 a 1 (hs_rat h1) rfl h2 hd ?_
  rw [← h3]
  exact kk v hv r σ' hX p e s m args below meth c H locs ls hM hC hl
theorem hj_lald {a : Nat} {i : Int32} {K : Int64 → Option (ρ × Sto)} (hd : decode M.2.1 pc = .ok (.laload, 1)) (kk : ∀ v, aL σ 3 a i = some v → Sim G M h mc ms n0 inj kc ks (pc + 1) lv (.long v :: st) σ (K v)) : Sim G M h mc ms n0 inj kc ks pc lv (.int i :: .ref a :: st) σ ((aL σ 3 a i).bind K) := by
  intro r σ' hX p e s m args below meth c H locs ls hM hC hl
  obtain ⟨v, hv, hX⟩ := bindE hX
  obtain ⟨n, f, h1, h2, h3⟩ := aL_of hv
  refine va_lald hM.1 hM.2.1 hM.2.2.2.2.2.2.2.2.2.1 hC.1 a 3 (hs_rat h1) rfl h2 hd ?_
  rw [← h3]
  exact kk v hv r σ' hX p e s m args below meth c H locs ls hM hC hl
theorem hj_aald5 {a : Nat} {i : Int32} {K : Nat → Option (ρ × Sto)} (hd : decode M.2.1 pc = .ok (.aaload, 1)) (kk : ∀ v, aR σ 5 a i = some v → Sim G M h mc ms n0 inj kc ks (pc + 1) lv (.ref v :: st) σ (K v)) : Sim G M h mc ms n0 inj kc ks pc lv (.int i :: .ref a :: st) σ ((aR σ 5 a i).bind K) := by
  intro r σ' hX p e s m args below meth c H locs ls hM hC hl
  obtain ⟨v, hv, hX⟩ := bindE hX
  obtain ⟨n, f, h1, h2, h3⟩ := aR_of hv
  refine va_aldq (C := RX5) hM.1 hM.2.1 hM.2.2.2.2.2.2.2.2.2.1 hC.1 a 5 (hs_rat h1) rfl h2 hd ?_
  rw [h3]
  exact kk v hv r σ' hX p e s m args below meth c H locs ls hM hC hl
theorem hj_aast5 {a x : Nat} {i : Int32} {K : Sto → Option (ρ × Sto)} (hd : decode M.2.1 pc = .ok (.aastore, 1)) (kk : ∀ σ1, sR σ 5 5 a i x = some σ1 → Sim G M h mc ms n0 inj kc ks (pc + 1) lv st σ1 (K σ1)) : Sim G M h mc ms n0 inj kc ks pc lv (.ref x :: .int i :: .ref a :: st) σ ((sR σ 5 5 a i x).bind K) := by
  intro r σ' hX p e s m args below meth c H locs ls hM hC hl
  obtain ⟨σ1, hv, hX⟩ := bindE hX
  obtain ⟨n, f, fs, h1, h0, h2, h3⟩ := sR_of hv
  refine va_astq (r := (RX5, TX5, 4)) (ci := 5) hM.1 hM.2.1 hM.2.2.2.2.2.2.2.2.2.1 hC.1 hC.2.1 hC.2.2.1 a 5 x (hs_rat h1) rfl (hs_oat h0) rfl h2 hd (fun H1 locs1 hP hD hS => ?_)
  refine kk σ1 hv r σ' hX p e s m args below meth c H1 locs1 ls hM ?_ hl
  rw [h3]
  refine hs_C.arr (n := n) hC ?_ hP hD hS
  simp only [hs_e, hs_a]
  congr 7
  funext j
  unfold va_up
  split <;> rfl
theorem hj_aald6 {a : Nat} {i : Int32} {K : Nat → Option (ρ × Sto)} (hd : decode M.2.1 pc = .ok (.aaload, 1)) (kk : ∀ v, aR σ 6 a i = some v → Sim G M h mc ms n0 inj kc ks (pc + 1) lv (.ref v :: st) σ (K v)) : Sim G M h mc ms n0 inj kc ks pc lv (.int i :: .ref a :: st) σ ((aR σ 6 a i).bind K) := by
  intro r σ' hX p e s m args below meth c H locs ls hM hC hl
  obtain ⟨v, hv, hX⟩ := bindE hX
  obtain ⟨n, f, h1, h2, h3⟩ := aR_of hv
  refine va_aldq (C := RX6) hM.1 hM.2.1 hM.2.2.2.2.2.2.2.2.2.1 hC.1 a 6 (hs_rat h1) rfl h2 hd ?_
  rw [h3]
  exact kk v hv r σ' hX p e s m args below meth c H locs ls hM hC hl
theorem hj_aast6 {a x : Nat} {i : Int32} {K : Sto → Option (ρ × Sto)} (hd : decode M.2.1 pc = .ok (.aastore, 1)) (kk : ∀ σ1, sR σ 6 6 a i x = some σ1 → Sim G M h mc ms n0 inj kc ks (pc + 1) lv st σ1 (K σ1)) : Sim G M h mc ms n0 inj kc ks pc lv (.ref x :: .int i :: .ref a :: st) σ ((sR σ 6 6 a i x).bind K) := by
  intro r σ' hX p e s m args below meth c H locs ls hM hC hl
  obtain ⟨σ1, hv, hX⟩ := bindE hX
  obtain ⟨n, f, fs, h1, h0, h2, h3⟩ := sR_of hv
  refine va_astq (r := (RX6, TX6, 2)) (ci := 6) hM.1 hM.2.1 hM.2.2.2.2.2.2.2.2.2.1 hC.1 hC.2.1 hC.2.2.1 a 6 x (hs_rat h1) rfl (hs_oat h0) rfl h2 hd (fun H1 locs1 hP hD hS => ?_)
  refine kk σ1 hv r σ' hX p e s m args below meth c H1 locs1 ls hM ?_ hl
  rw [h3]
  refine hs_C.arr (n := n) hC ?_ hP hD hS
  simp only [hs_e, hs_a]
  congr 7
  funext j
  unfold va_up
  split <;> rfl
theorem hj_aald7 {a : Nat} {i : Int32} {K : Nat → Option (ρ × Sto)} (hd : decode M.2.1 pc = .ok (.aaload, 1)) (kk : ∀ v, aR σ 7 a i = some v → Sim G M h mc ms n0 inj kc ks (pc + 1) lv (.ref v :: st) σ (K v)) : Sim G M h mc ms n0 inj kc ks pc lv (.int i :: .ref a :: st) σ ((aR σ 7 a i).bind K) := by
  intro r σ' hX p e s m args below meth c H locs ls hM hC hl
  obtain ⟨v, hv, hX⟩ := bindE hX
  obtain ⟨n, f, h1, h2, h3⟩ := aR_of hv
  refine va_aldq (C := RX7) hM.1 hM.2.1 hM.2.2.2.2.2.2.2.2.2.1 hC.1 a 7 (hs_rat h1) rfl h2 hd ?_
  rw [h3]
  exact kk v hv r σ' hX p e s m args below meth c H locs ls hM hC hl
theorem hj_aast7 {a x : Nat} {i : Int32} {K : Sto → Option (ρ × Sto)} (hd : decode M.2.1 pc = .ok (.aastore, 1)) (kk : ∀ σ1, sR σ 7 7 a i x = some σ1 → Sim G M h mc ms n0 inj kc ks (pc + 1) lv st σ1 (K σ1)) : Sim G M h mc ms n0 inj kc ks pc lv (.ref x :: .int i :: .ref a :: st) σ ((sR σ 7 7 a i x).bind K) := by
  intro r σ' hX p e s m args below meth c H locs ls hM hC hl
  obtain ⟨σ1, hv, hX⟩ := bindE hX
  obtain ⟨n, f, fs, h1, h0, h2, h3⟩ := sR_of hv
  refine va_astq (r := (RX7, TX7, 9)) (ci := 7) hM.1 hM.2.1 hM.2.2.2.2.2.2.2.2.2.1 hC.1 hC.2.1 hC.2.2.1 a 7 x (hs_rat h1) rfl (hs_oat h0) rfl h2 hd (fun H1 locs1 hP hD hS => ?_)
  refine kk σ1 hv r σ' hX p e s m args below meth c H1 locs1 ls hM ?_ hl
  rw [h3]
  refine hs_C.arr (n := n) hC ?_ hP hD hS
  simp only [hs_e, hs_a]
  congr 7
  funext j
  unfold va_up
  split <;> rfl
theorem hj_iast {a : Nat} {i x : Int32} {K : Sto → Option (ρ × Sto)} (hd : decode M.2.1 pc = .ok (.iastore, 1)) (kk : ∀ σ1, sI σ 2 a i x = some σ1 → Sim G M h mc ms n0 inj kc ks (pc + 1) lv st σ1 (K σ1)) : Sim G M h mc ms n0 inj kc ks pc lv (.int x :: .int i :: .ref a :: st) σ ((sI σ 2 a i x).bind K) := by
  intro r σ' hX p e s m args below meth c H locs ls hM hC hl
  obtain ⟨σ1, hv, hX⟩ := bindE hX
  obtain ⟨n, f, h1, h2, h3⟩ := sI_of hv
  refine va_iast hM.1 hM.2.1 hM.2.2.2.2.2.2.2.2.2.1 hC.1 hC.2.1 hC.2.2.1 a 2 (hs_rat h1) rfl h2 hd (fun H1 locs1 hP hD hS => ?_)
  refine kk σ1 hv r σ' hX p e s m args below meth c H1 locs1 ls hM ?_ hl
  rw [h3]
  exact hs_C.arr (n := n) hC rfl hP hD hS
theorem hj_bast {a : Nat} {i x : Int32} {K : Sto → Option (ρ × Sto)} (hd : decode M.2.1 pc = .ok (.bastore, 1)) (kk : ∀ σ1, sI σ 0 a i x = some σ1 → Sim G M h mc ms n0 inj kc ks (pc + 1) lv st σ1 (K σ1)) : Sim G M h mc ms n0 inj kc ks pc lv (.int x :: .int i :: .ref a :: st) σ ((sI σ 0 a i x).bind K) := by
  intro r σ' hX p e s m args below meth c H locs ls hM hC hl
  obtain ⟨σ1, hv, hX⟩ := bindE hX
  obtain ⟨n, f, h1, h2, h3⟩ := sI_of hv
  refine va_bast hM.1 hM.2.1 hM.2.2.2.2.2.2.2.2.2.1 hC.1 hC.2.1 hC.2.2.1 a 0 (hs_rat h1) rfl h2 hd (fun H1 locs1 hP hD hS => ?_)
  refine kk σ1 hv r σ' hX p e s m args below meth c H1 locs1 ls hM ?_ hl
  rw [h3]
  exact hs_C.arr (n := n) hC rfl hP hD hS
theorem hj_zast {a : Nat} {i x : Int32} {K : Sto → Option (ρ × Sto)} (hd : decode M.2.1 pc = .ok (.bastore, 1)) (kk : ∀ σ1, sI σ 4 a i x = some σ1 → Sim G M h mc ms n0 inj kc ks (pc + 1) lv st σ1 (K σ1)) : Sim G M h mc ms n0 inj kc ks pc lv (.int x :: .int i :: .ref a :: st) σ ((sI σ 4 a i x).bind K) := by
  intro r σ' hX p e s m args below meth c H locs ls hM hC hl
  obtain ⟨σ1, hv, hX⟩ := bindE hX
  obtain ⟨n, f, h1, h2, h3⟩ := sI_of hv
  refine va_zast hM.1 hM.2.1 hM.2.2.2.2.2.2.2.2.2.1 hC.1 hC.2.1 hC.2.2.1 a 4 (hs_rat h1) rfl h2 hd (fun H1 locs1 hP hD hS => ?_)
  refine kk σ1 hv r σ' hX p e s m args below meth c H1 locs1 ls hM ?_ hl
  rw [h3]
  exact hs_C.arr (n := n) hC rfl hP hD hS
theorem hj_cast {a : Nat} {i x : Int32} {K : Sto → Option (ρ × Sto)} (hd : decode M.2.1 pc = .ok (.castore, 1)) (kk : ∀ σ1, sI σ 1 a i x = some σ1 → Sim G M h mc ms n0 inj kc ks (pc + 1) lv st σ1 (K σ1)) : Sim G M h mc ms n0 inj kc ks pc lv (.int x :: .int i :: .ref a :: st) σ ((sI σ 1 a i x).bind K) := by
  intro r σ' hX p e s m args below meth c H locs ls hM hC hl
  obtain ⟨σ1, hv, hX⟩ := bindE hX
  obtain ⟨n, f, h1, h2, h3⟩ := sI_of hv
  refine va_cast hM.1 hM.2.1 hM.2.2.2.2.2.2.2.2.2.1 hC.1 hC.2.1 hC.2.2.1 a 1 (hs_rat h1) rfl h2 hd (fun H1 locs1 hP hD hS => ?_)
  refine kk σ1 hv r σ' hX p e s m args below meth c H1 locs1 ls hM ?_ hl
  rw [h3]
  exact hs_C.arr (n := n) hC rfl hP hD hS
theorem hj_last {a : Nat} {i : Int32} {x : Int64} {K : Sto → Option (ρ × Sto)} (hd : decode M.2.1 pc = .ok (.lastore, 1)) (kk : ∀ σ1, sL σ 3 a i x = some σ1 → Sim G M h mc ms n0 inj kc ks (pc + 1) lv st σ1 (K σ1)) : Sim G M h mc ms n0 inj kc ks pc lv (.long x :: .int i :: .ref a :: st) σ ((sL σ 3 a i x).bind K) := by
  intro r σ' hX p e s m args below meth c H locs ls hM hC hl
  obtain ⟨σ1, hv, hX⟩ := bindE hX
  obtain ⟨n, f, h1, h2, h3⟩ := sL_of hv
  refine va_last hM.1 hM.2.1 hM.2.2.2.2.2.2.2.2.2.1 hC.1 hC.2.1 hC.2.2.1 a 3 (hs_rat h1) rfl h2 hd (fun H1 locs1 hP hD hS => ?_)
  refine kk σ1 hv r σ' hX p e s m args below meth c H1 locs1 ls hM ?_ hl
  rw [h3]
  exact hs_C.arr (n := n) hC rfl hP hD hS
end HH
