def hs_rem (x y : Int32) : Int32 := x - x / y * y
def hs_remL (x y : Int64) : Int64 := x - x / y * y
def cb {α β : Type} (F : Option (α × Sto)) (K : α → Sto → Option β) : Option β := F.bind (fun p => K p.1 p.2)
def jI (x : Int32) : Option Value := some (.int x)
def jL (x : Int64) : Option Value := some (.long x)
def jV (_ : Unit) : Option Value := none
theorem hs_vcat (q : Nat) (v : Value) : (hs_v q v).category = v.category := by cases v <;> rfl
theorem hs_catsum (q : Nat) (st : List Value) : ((st.map (hs_v q)).map fun v => v.category).sum = (st.map fun v => v.category).sum := by
  rw [List.map_map]
  congr 1
  exact List.map_congr_left (fun v _ => hs_vcat q v)
theorem hs_Lget {q : Nat} {lv : List (Nat × Value)} {k i : Nat} {v : Value} (hk : lv[k]? = some (i, v)) : (hs_L q lv)[k]? = some (i, hs_v q v) := by
  unfold hs_L
  rw [List.getElem?_map, hk]
  rfl
theorem hs_Lpick {q : Nat} {lv lv' : List (Nat × Value)} {ks : List Nat} (h : lv_pick lv ks = lv') : lv_pick (hs_L q lv) ks = hs_L q lv' := by
  subst h
  unfold lv_pick hs_L
  rw [List.map_filterMap]
  congr 1
  funext k
  rw [List.getElem?_map]
theorem hs_Lfilt {q i : Nat} {lv : List (Nat × Value)} : (hs_L q lv).filter (fun x => !(x.1 == i) && !(x.1 + 1 == i && x.2.category == 2)) = hs_L q (lv.filter (fun x => !(x.1 == i) && !(x.1 + 1 == i && x.2.category == 2))) := by
  unfold hs_L
  rw [List.filter_map]
  congr 1
  apply List.filter_congr
  intro x _
  simp only [Function.comp, hs_vcat]
theorem hs_Lfilt2 {q i : Nat} {lv : List (Nat × Value)} : (hs_L q lv).filter (fun x => !(x.1 == i) && (!(x.1 == i + 1) && !(x.1 + 1 == i && x.2.category == 2))) = hs_L q (lv.filter (fun x => !(x.1 == i) && (!(x.1 == i + 1) && !(x.1 + 1 == i && x.2.category == 2)))) := by
  unfold hs_L
  rw [List.filter_map]
  congr 1
  apply List.filter_congr
  intro x _
  simp only [Function.comp, hs_vcat]

section HJ
variable {G : GP} {M : Mt} {h mc ms n0 : Nat} {ρ : Type} {inj : ρ → Option Value} {kc ks pc : Nat} {lv : List (Nat × Value)} {st : List Value} {σ : Sto} {X : Option (ρ × Sto)}

theorem hj_iadd {x y : Int32} (hd : decode M.2.1 pc = .ok (.iadd, 1)) (k : Sim G M h mc ms n0 inj kc ks (pc + 1) lv (.int (x + y) :: st) σ X) : Sim G M h mc ms n0 inj kc ks pc lv (.int y :: .int x :: st) σ X :=
  fun r σ' hX p e s m args below meth c H locs ls hM hC hl => lv_iadd hM.1 hM.2.1 hd (k r σ' hX p e s m args below meth c H locs ls hM hC hl)
theorem hj_isub {x y : Int32} (hd : decode M.2.1 pc = .ok (.isub, 1)) (k : Sim G M h mc ms n0 inj kc ks (pc + 1) lv (.int (x - y) :: st) σ X) : Sim G M h mc ms n0 inj kc ks pc lv (.int y :: .int x :: st) σ X :=
  fun r σ' hX p e s m args below meth c H locs ls hM hC hl => lv_isub hM.1 hM.2.1 hd (k r σ' hX p e s m args below meth c H locs ls hM hC hl)
theorem hj_imul {x y : Int32} (hd : decode M.2.1 pc = .ok (.imul, 1)) (k : Sim G M h mc ms n0 inj kc ks (pc + 1) lv (.int (x * y) :: st) σ X) : Sim G M h mc ms n0 inj kc ks pc lv (.int y :: .int x :: st) σ X :=
  fun r σ' hX p e s m args below meth c H locs ls hM hC hl => lv_imul hM.1 hM.2.1 hd (k r σ' hX p e s m args below meth c H locs ls hM hC hl)
theorem hj_iand {x y : Int32} (hd : decode M.2.1 pc = .ok (.iand, 1)) (k : Sim G M h mc ms n0 inj kc ks (pc + 1) lv (.int (x &&& y) :: st) σ X) : Sim G M h mc ms n0 inj kc ks pc lv (.int y :: .int x :: st) σ X :=
  fun r σ' hX p e s m args below meth c H locs ls hM hC hl => lv_iand hM.1 hM.2.1 hd (k r σ' hX p e s m args below meth c H locs ls hM hC hl)
theorem hj_ior {x y : Int32} (hd : decode M.2.1 pc = .ok (.ior, 1)) (k : Sim G M h mc ms n0 inj kc ks (pc + 1) lv (.int (x ||| y) :: st) σ X) : Sim G M h mc ms n0 inj kc ks pc lv (.int y :: .int x :: st) σ X :=
  fun r σ' hX p e s m args below meth c H locs ls hM hC hl => lv_ior hM.1 hM.2.1 hd (k r σ' hX p e s m args below meth c H locs ls hM hC hl)
theorem hj_ixor {x y : Int32} (hd : decode M.2.1 pc = .ok (.ixor, 1)) (k : Sim G M h mc ms n0 inj kc ks (pc + 1) lv (.int (x ^^^ y) :: st) σ X) : Sim G M h mc ms n0 inj kc ks pc lv (.int y :: .int x :: st) σ X :=
  fun r σ' hX p e s m args below meth c H locs ls hM hC hl => lv_ixor hM.1 hM.2.1 hd (k r σ' hX p e s m args below meth c H locs ls hM hC hl)
theorem hj_ishl {x y : Int32} (hd : decode M.2.1 pc = .ok (.ishl, 1)) (k : Sim G M h mc ms n0 inj kc ks (pc + 1) lv (.int (x <<< (y &&& 31)) :: st) σ X) : Sim G M h mc ms n0 inj kc ks pc lv (.int y :: .int x :: st) σ X :=
  fun r σ' hX p e s m args below meth c H locs ls hM hC hl => lv_ishl hM.1 hM.2.1 hd (k r σ' hX p e s m args below meth c H locs ls hM hC hl)
theorem hj_ishr {x y : Int32} (hd : decode M.2.1 pc = .ok (.ishr, 1)) (k : Sim G M h mc ms n0 inj kc ks (pc + 1) lv (.int (x >>> (y &&& 31)) :: st) σ X) : Sim G M h mc ms n0 inj kc ks pc lv (.int y :: .int x :: st) σ X :=
  fun r σ' hX p e s m args below meth c H locs ls hM hC hl => lv_ishr hM.1 hM.2.1 hd (k r σ' hX p e s m args below meth c H locs ls hM hC hl)
theorem hj_ladd {x y : Int64} (hd : decode M.2.1 pc = .ok (.ladd, 1)) (k : Sim G M h mc ms n0 inj kc ks (pc + 1) lv (.long (x + y) :: st) σ X) : Sim G M h mc ms n0 inj kc ks pc lv (.long y :: .long x :: st) σ X :=
  fun r σ' hX p e s m args below meth c H locs ls hM hC hl => lv_ladd hM.1 hM.2.1 hd (k r σ' hX p e s m args below meth c H locs ls hM hC hl)
theorem hj_lsub {x y : Int64} (hd : decode M.2.1 pc = .ok (.lsub, 1)) (k : Sim G M h mc ms n0 inj kc ks (pc + 1) lv (.long (x - y) :: st) σ X) : Sim G M h mc ms n0 inj kc ks pc lv (.long y :: .long x :: st) σ X :=
  fun r σ' hX p e s m args below meth c H locs ls hM hC hl => lv_lsub hM.1 hM.2.1 hd (k r σ' hX p e s m args below meth c H locs ls hM hC hl)
theorem hj_lmul {x y : Int64} (hd : decode M.2.1 pc = .ok (.lmul, 1)) (k : Sim G M h mc ms n0 inj kc ks (pc + 1) lv (.long (x * y) :: st) σ X) : Sim G M h mc ms n0 inj kc ks pc lv (.long y :: .long x :: st) σ X :=
  fun r σ' hX p e s m args below meth c H locs ls hM hC hl => lv_lmul hM.1 hM.2.1 hd (k r σ' hX p e s m args below meth c H locs ls hM hC hl)
theorem hj_ineg {x : Int32} (hd : decode M.2.1 pc = .ok (.ineg, 1)) (k : Sim G M h mc ms n0 inj kc ks (pc + 1) lv (.int (-x) :: st) σ X) : Sim G M h mc ms n0 inj kc ks pc lv (.int x :: st) σ X :=
  fun r σ' hX p e s m args below meth c H locs ls hM hC hl => lv_ineg hM.1 hM.2.1 hd (k r σ' hX p e s m args below meth c H locs ls hM hC hl)
theorem hj_lneg {x : Int64} (hd : decode M.2.1 pc = .ok (.lneg, 1)) (k : Sim G M h mc ms n0 inj kc ks (pc + 1) lv (.long (-x) :: st) σ X) : Sim G M h mc ms n0 inj kc ks pc lv (.long x :: st) σ X :=
  fun r σ' hX p e s m args below meth c H locs ls hM hC hl => lv_lneg hM.1 hM.2.1 hd (k r σ' hX p e s m args below meth c H locs ls hM hC hl)
theorem hj_iushr {x y : Int32} (hd : decode M.2.1 pc = .ok (.iushr, 1)) (k : Sim G M h mc ms n0 inj kc ks (pc + 1) lv (.int (x.toUInt32 >>> (y.toUInt32 &&& Int32.toUInt32 31)).toInt32 :: st) σ X) : Sim G M h mc ms n0 inj kc ks pc lv (.int y :: .int x :: st) σ X :=
  fun r σ' hX p e s m args below meth c H locs ls hM hC hl => lv_iushr hM.1 hM.2.1 hd rfl (k r σ' hX p e s m args below meth c H locs ls hM hC hl)
theorem hj_i2l {x : Int32} (hd : decode M.2.1 pc = .ok (.i2l, 1)) (k : Sim G M h mc ms n0 inj kc ks (pc + 1) lv (.long x.toInt64 :: st) σ X) : Sim G M h mc ms n0 inj kc ks pc lv (.int x :: st) σ X :=
  fun r σ' hX p e s m args below meth c H locs ls hM hC hl => lv_i2l hM.1 hM.2.1 hd rfl (k r σ' hX p e s m args below meth c H locs ls hM hC hl)
theorem hj_l2i {x : Int64} (hd : decode M.2.1 pc = .ok (.l2i, 1)) (k : Sim G M h mc ms n0 inj kc ks (pc + 1) lv (.int x.toInt32 :: st) σ X) : Sim G M h mc ms n0 inj kc ks pc lv (.long x :: st) σ X :=
  fun r σ' hX p e s m args below meth c H locs ls hM hC hl => lv_l2i hM.1 hM.2.1 hd rfl (k r σ' hX p e s m args below meth c H locs ls hM hC hl)
theorem hj_i2b {x : Int32} (hd : decode M.2.1 pc = .ok (.i2b, 1)) (k : Sim G M h mc ms n0 inj kc ks (pc + 1) lv (.int x.toInt8.toInt32 :: st) σ X) : Sim G M h mc ms n0 inj kc ks pc lv (.int x :: st) σ X :=
  fun r σ' hX p e s m args below meth c H locs ls hM hC hl => lv_i2b hM.1 hM.2.1 hd rfl (k r σ' hX p e s m args below meth c H locs ls hM hC hl)
theorem hj_i2c {x : Int32} (hd : decode M.2.1 pc = .ok (.i2c, 1)) (k : Sim G M h mc ms n0 inj kc ks (pc + 1) lv (.int (x.toUInt32 % 65536).toInt32 :: st) σ X) : Sim G M h mc ms n0 inj kc ks pc lv (.int x :: st) σ X :=
  fun r σ' hX p e s m args below meth c H locs ls hM hC hl => lv_i2c hM.1 hM.2.1 hd rfl (k r σ' hX p e s m args below meth c H locs ls hM hC hl)
theorem hj_lcmp {x y : Int64} (hd : decode M.2.1 pc = .ok (.lcmp, 1)) (k : Sim G M h mc ms n0 inj kc ks (pc + 1) lv (.int (lg_cmp x y) :: st) σ X) : Sim G M h mc ms n0 inj kc ks pc lv (.long y :: .long x :: st) σ X :=
  fun r σ' hX p e s m args below meth c H locs ls hM hC hl => W.lcmp hM.1 hM.2.1 hd (k r σ' hX p e s m args below meth c H locs ls hM hC hl)
theorem hj_iconst {n : Int} (v : Int32) (hd : decode M.2.1 pc = .ok (.iconst n, 1)) (hv : Int32.ofInt n = v) (k : Sim G M h mc ms n0 inj kc ks (pc + 1) lv (.int v :: st) σ X) : Sim G M h mc ms n0 inj kc ks pc lv st σ X :=
  fun r σ' hX p e s m args below meth c H locs ls hM hC hl => lv_iconst hM.1 hM.2.1 hd hv (k r σ' hX p e s m args below meth c H locs ls hM hC hl)
theorem hj_bipush {n : Int} (v : Int32) (hd : decode M.2.1 pc = .ok (.bipush n, 2)) (hv : (Int8.ofInt n).toInt32 = v) (k : Sim G M h mc ms n0 inj kc ks (pc + 2) lv (.int v :: st) σ X) : Sim G M h mc ms n0 inj kc ks pc lv st σ X :=
  fun r σ' hX p e s m args below meth c H locs ls hM hC hl => lv_bipush hM.1 hM.2.1 hd hv (k r σ' hX p e s m args below meth c H locs ls hM hC hl)
theorem hj_sipush {n : Int} (v : Int32) (hd : decode M.2.1 pc = .ok (.sipush n, 3)) (hv : (Int16.ofInt n).toInt32 = v) (k : Sim G M h mc ms n0 inj kc ks (pc + 3) lv (.int v :: st) σ X) : Sim G M h mc ms n0 inj kc ks pc lv st σ X :=
  fun r σ' hX p e s m args below meth c H locs ls hM hC hl => lv_sipush hM.1 hM.2.1 hd hv (k r σ' hX p e s m args below meth c H locs ls hM hC hl)
theorem hj_lconst {n : Fin 2} (v : Int64) (hd : decode M.2.1 pc = .ok (.lconst n, 1)) (hv : Int64.ofNat (n : Nat) = v) (k : Sim G M h mc ms n0 inj kc ks (pc + 1) lv (.long v :: st) σ X) : Sim G M h mc ms n0 inj kc ks pc lv st σ X :=
  fun r σ' hX p e s m args below meth c H locs ls hM hC hl => lv_lconst hM.1 hM.2.1 hd hv (k r σ' hX p e s m args below meth c H locs ls hM hC hl)
theorem hj_idiv {x y : Int32} (hd : decode M.2.1 pc = .ok (.idiv, 1)) (k : ¬ y = 0 → Sim G M h mc ms n0 inj kc ks (pc + 1) lv (.int (x / y) :: st) σ X) : Sim G M h mc ms n0 inj kc ks pc lv (.int y :: .int x :: st) σ (if y = 0 then none else X) := by
  intro r σ' hX p e s m args below meth c H locs ls hM hC hl
  by_cases hy : y = 0
  · rw [if_pos hy] at hX; cases hX
  · rw [if_neg hy] at hX
    exact lv_idiv hM.1 hM.2.1 hd hy (k hy r σ' hX p e s m args below meth c H locs ls hM hC hl)
theorem hj_idivK {x y : Int32} (hd : decode M.2.1 pc = .ok (.idiv, 1)) (hy : ¬ y = 0) (k : Sim G M h mc ms n0 inj kc ks (pc + 1) lv (.int (x / y) :: st) σ X) : Sim G M h mc ms n0 inj kc ks pc lv (.int y :: .int x :: st) σ X :=
  fun r σ' hX p e s m args below meth c H locs ls hM hC hl => lv_idiv hM.1 hM.2.1 hd hy (k r σ' hX p e s m args below meth c H locs ls hM hC hl)
theorem hj_irem {x y : Int32} (hd : decode M.2.1 pc = .ok (.irem, 1)) (k : ¬ y = 0 → Sim G M h mc ms n0 inj kc ks (pc + 1) lv (.int (hs_rem x y) :: st) σ X) : Sim G M h mc ms n0 inj kc ks pc lv (.int y :: .int x :: st) σ (if y = 0 then none else X) := by
  intro r σ' hX p e s m args below meth c H locs ls hM hC hl
  by_cases hy : y = 0
  · rw [if_pos hy] at hX; cases hX
  · rw [if_neg hy] at hX
    exact lv_irem hM.1 hM.2.1 hd hy (k hy r σ' hX p e s m args below meth c H locs ls hM hC hl)
theorem hj_iremK {x y : Int32} (hd : decode M.2.1 pc = .ok (.irem, 1)) (hy : ¬ y = 0) (k : Sim G M h mc ms n0 inj kc ks (pc + 1) lv (.int (hs_rem x y) :: st) σ X) : Sim G M h mc ms n0 inj kc ks pc lv (.int y :: .int x :: st) σ X :=
  fun r σ' hX p e s m args below meth c H locs ls hM hC hl => lv_irem hM.1 hM.2.1 hd hy (k r σ' hX p e s m args below meth c H locs ls hM hC hl)
theorem hj_ldiv {x y : Int64} (hd : decode M.2.1 pc = .ok (.ldiv, 1)) (k : ¬ y = 0 → Sim G M h mc ms n0 inj kc ks (pc + 1) lv (.long (x / y) :: st) σ X) : Sim G M h mc ms n0 inj kc ks pc lv (.long y :: .long x :: st) σ (if y = 0 then none else X) := by
  intro r σ' hX p e s m args below meth c H locs ls hM hC hl
  by_cases hy : y = 0
  · rw [if_pos hy] at hX; cases hX
  · rw [if_neg hy] at hX
    exact lv_ldiv hM.1 hM.2.1 hd hy (k hy r σ' hX p e s m args below meth c H locs ls hM hC hl)
theorem hj_ldivK {x y : Int64} (hd : decode M.2.1 pc = .ok (.ldiv, 1)) (hy : ¬ y = 0) (k : Sim G M h mc ms n0 inj kc ks (pc + 1) lv (.long (x / y) :: st) σ X) : Sim G M h mc ms n0 inj kc ks pc lv (.long y :: .long x :: st) σ X :=
  fun r σ' hX p e s m args below meth c H locs ls hM hC hl => lv_ldiv hM.1 hM.2.1 hd hy (k r σ' hX p e s m args below meth c H locs ls hM hC hl)
theorem hj_lrem {x y : Int64} (hd : decode M.2.1 pc = .ok (.lrem, 1)) (k : ¬ y = 0 → Sim G M h mc ms n0 inj kc ks (pc + 1) lv (.long (hs_remL x y) :: st) σ X) : Sim G M h mc ms n0 inj kc ks pc lv (.long y :: .long x :: st) σ (if y = 0 then none else X) := by
  intro r σ' hX p e s m args below meth c H locs ls hM hC hl
  by_cases hy : y = 0
  · rw [if_pos hy] at hX; cases hX
  · rw [if_neg hy] at hX
    exact lv_lrem hM.1 hM.2.1 hd hy (k hy r σ' hX p e s m args below meth c H locs ls hM hC hl)
theorem hj_lremK {x y : Int64} (hd : decode M.2.1 pc = .ok (.lrem, 1)) (hy : ¬ y = 0) (k : Sim G M h mc ms n0 inj kc ks (pc + 1) lv (.long (hs_remL x y) :: st) σ X) : Sim G M h mc ms n0 inj kc ks pc lv (.long y :: .long x :: st) σ X :=
  fun r σ' hX p e s m args below meth c H locs ls hM hC hl => lv_lrem hM.1 hM.2.1 hd hy (k r σ' hX p e s m args below meth c H locs ls hM hC hl)
theorem hj_dup {va : Value} (hd : decode M.2.1 pc = .ok (.dup, 1)) (hva : va.category = 1) (k : Sim G M h mc ms n0 inj kc ks (pc + 1) lv (va :: va :: st) σ X) : Sim G M h mc ms n0 inj kc ks pc lv (va :: st) σ X :=
  fun r σ' hX p e s m args below meth c H locs ls hM hC hl => lv_dup hM.1 hM.2.1 hd ((hs_vcat _ _).trans hva) (k r σ' hX p e s m args below meth c H locs ls hM hC hl)
theorem hj_pop {va : Value} (hd : decode M.2.1 pc = .ok (.pop, 1)) (hva : va.category = 1) (k : Sim G M h mc ms n0 inj kc ks (pc + 1) lv st σ X) : Sim G M h mc ms n0 inj kc ks pc lv (va :: st) σ X :=
  fun r σ' hX p e s m args below meth c H locs ls hM hC hl => lv_pop hM.1 hM.2.1 hd ((hs_vcat _ _).trans hva) (k r σ' hX p e s m args below meth c H locs ls hM hC hl)
theorem hj_dup2 {va vb : Value} (hd : decode M.2.1 pc = .ok (.dup2, 1)) (hva : va.category = 1) (hvb : vb.category = 1) (k : Sim G M h mc ms n0 inj kc ks (pc + 1) lv (va :: vb :: va :: vb :: st) σ X) : Sim G M h mc ms n0 inj kc ks pc lv (va :: vb :: st) σ X :=
  fun r σ' hX p e s m args below meth c H locs ls hM hC hl => lv_dup2_11 hM.1 hM.2.1 hd ((hs_vcat _ _).trans hva) ((hs_vcat _ _).trans hvb) (k r σ' hX p e s m args below meth c H locs ls hM hC hl)
theorem hj_dup2L {va : Value} (hd : decode M.2.1 pc = .ok (.dup2, 1)) (hva : va.category = 2) (k : Sim G M h mc ms n0 inj kc ks (pc + 1) lv (va :: va :: st) σ X) : Sim G M h mc ms n0 inj kc ks pc lv (va :: st) σ X :=
  fun r σ' hX p e s m args below meth c H locs ls hM hC hl => lv_dup2_2 hM.1 hM.2.1 hd ((hs_vcat _ _).trans hva) (k r σ' hX p e s m args below meth c H locs ls hM hC hl)
theorem hj_iload_n {f : Fin 4} {x : Int32} (j : Nat) (hd : decode M.2.1 pc = .ok (.iload_n f, 1)) (hk : lv[j]? = some ((f : Nat), .int x)) (k : Sim G M h mc ms n0 inj kc ks (pc + 1) lv (.int x :: st) σ X) : Sim G M h mc ms n0 inj kc ks pc lv st σ X :=
  fun r σ' hX p e s m args below meth c H locs ls hM hC hl => lv_iload_n hM.1 hM.2.1 hd rfl (lv_at hl j (hs_Lget hk)) (k r σ' hX p e s m args below meth c H locs ls hM hC hl)
theorem hj_iload {f : Nat} {x : Int32} (j : Nat) (hd : decode M.2.1 pc = .ok (.iload f, 2)) (hk : lv[j]? = some (f, .int x)) (k : Sim G M h mc ms n0 inj kc ks (pc + 2) lv (.int x :: st) σ X) : Sim G M h mc ms n0 inj kc ks pc lv st σ X :=
  fun r σ' hX p e s m args below meth c H locs ls hM hC hl => lv_iload hM.1 hM.2.1 hd (lv_at hl j (hs_Lget hk)) (k r σ' hX p e s m args below meth c H locs ls hM hC hl)
theorem hj_lload_n {f : Fin 4} {x : Int64} (j : Nat) (hd : decode M.2.1 pc = .ok (.lload_n f, 1)) (hk : lv[j]? = some ((f : Nat), .long x)) (k : Sim G M h mc ms n0 inj kc ks (pc + 1) lv (.long x :: st) σ X) : Sim G M h mc ms n0 inj kc ks pc lv st σ X :=
  fun r σ' hX p e s m args below meth c H locs ls hM hC hl => lv_lload_n hM.1 hM.2.1 hd rfl (lv_at hl j (hs_Lget hk)) (k r σ' hX p e s m args below meth c H locs ls hM hC hl)
theorem hj_lload {f : Nat} {x : Int64} (j : Nat) (hd : decode M.2.1 pc = .ok (.lload f, 2)) (hk : lv[j]? = some (f, .long x)) (k : Sim G M h mc ms n0 inj kc ks (pc + 2) lv (.long x :: st) σ X) : Sim G M h mc ms n0 inj kc ks pc lv st σ X :=
  fun r σ' hX p e s m args below meth c H locs ls hM hC hl => lv_lload hM.1 hM.2.1 hd (lv_at hl j (hs_Lget hk)) (k r σ' hX p e s m args below meth c H locs ls hM hC hl)
theorem hj_aload_n {f : Fin 4} {x : Nat} (j : Nat) (hd : decode M.2.1 pc = .ok (.aload_n f, 1)) (hk : lv[j]? = some ((f : Nat), .ref x)) (k : Sim G M h mc ms n0 inj kc ks (pc + 1) lv (.ref x :: st) σ X) : Sim G M h mc ms n0 inj kc ks pc lv st σ X :=
  fun r σ' hX p e s m args below meth c H locs ls hM hC hl => lv_aload_n hM.1 hM.2.1 hd rfl (lv_at hl j (hs_Lget hk)) (k r σ' hX p e s m args below meth c H locs ls hM hC hl)
theorem hj_aload {f : Nat} {x : Nat} (j : Nat) (hd : decode M.2.1 pc = .ok (.aload f, 2)) (hk : lv[j]? = some (f, .ref x)) (k : Sim G M h mc ms n0 inj kc ks (pc + 2) lv (.ref x :: st) σ X) : Sim G M h mc ms n0 inj kc ks pc lv st σ X :=
  fun r σ' hX p e s m args below meth c H locs ls hM hC hl => lv_aload hM.1 hM.2.1 hd (lv_at hl j (hs_Lget hk)) (k r σ' hX p e s m args below meth c H locs ls hM hC hl)
theorem hj_istore_n {f : Fin 4} {x : Int32} {lv' : List (Nat × Value)} (hd : decode M.2.1 pc = .ok (.istore_n f, 1)) (hn : (f : Nat) < M.2.2.1) (js : List Nat) (hv : lv_pick (((f : Nat), .int x) :: lv.filter (fun q => !(q.1 == (f : Nat)) && !(q.1 + 1 == (f : Nat) && q.2.category == 2))) js = lv') (k : Sim G M h mc ms n0 inj kc ks (pc + 1) lv' st σ X) : Sim G M h mc ms n0 inj kc ks pc lv (.int x :: st) σ X := by
  intro r σ' hX p e s m args below meth c H locs ls hM hC hl
  refine lv_istore_n hM.1 hM.2.1 hd rfl hl hn rfl (fun ls' hl' => ?_)
  rw [hs_Lfilt] at hl'
  exact k r σ' hX p e s m args below meth c H locs ls' hM hC (lv_sub hl' js (hs_Lpick (lv := ((f : Nat), .int x) :: lv.filter (fun q => !(q.1 == (f : Nat)) && !(q.1 + 1 == (f : Nat) && q.2.category == 2))) hv))
theorem hj_istore {i : Nat} {x : Int32} {lv' : List (Nat × Value)} (hd : decode M.2.1 pc = .ok (.istore i, 2)) (hn : i < M.2.2.1) (js : List Nat) (hv : lv_pick ((i, .int x) :: lv.filter (fun q => !(q.1 == i) && !(q.1 + 1 == i && q.2.category == 2))) js = lv') (k : Sim G M h mc ms n0 inj kc ks (pc + 2) lv' st σ X) : Sim G M h mc ms n0 inj kc ks pc lv (.int x :: st) σ X := by
  intro r σ' hX p e s m args below meth c H locs ls hM hC hl
  refine lv_istore hM.1 hM.2.1 hd hl hn rfl (fun ls' hl' => ?_)
  rw [hs_Lfilt] at hl'
  exact k r σ' hX p e s m args below meth c H locs ls' hM hC (lv_sub hl' js (hs_Lpick (lv := (i, .int x) :: lv.filter (fun q => !(q.1 == i) && !(q.1 + 1 == i && q.2.category == 2))) hv))
theorem hj_lstore_n {f : Fin 4} {x : Int64} {lv' : List (Nat × Value)} (hd : decode M.2.1 pc = .ok (.lstore_n f, 1)) (hn : (f : Nat) + 1 < M.2.2.1) (js : List Nat) (hv : lv_pick (((f : Nat), .long x) :: lv.filter (fun q => !(q.1 == (f : Nat)) && (!(q.1 == (f : Nat) + 1) && !(q.1 + 1 == (f : Nat) && q.2.category == 2)))) js = lv') (k : Sim G M h mc ms n0 inj kc ks (pc + 1) lv' st σ X) : Sim G M h mc ms n0 inj kc ks pc lv (.long x :: st) σ X := by
  intro r σ' hX p e s m args below meth c H locs ls hM hC hl
  refine lv_lstore_n hM.1 hM.2.1 hd rfl hl hn rfl (fun ls' hl' => ?_)
  rw [hs_Lfilt2] at hl'
  exact k r σ' hX p e s m args below meth c H locs ls' hM hC (lv_sub hl' js (hs_Lpick (lv := ((f : Nat), .long x) :: lv.filter (fun q => !(q.1 == (f : Nat)) && (!(q.1 == (f : Nat) + 1) && !(q.1 + 1 == (f : Nat) && q.2.category == 2)))) hv))
theorem hj_lstore {i : Nat} {x : Int64} {lv' : List (Nat × Value)} (hd : decode M.2.1 pc = .ok (.lstore i, 2)) (hn : i + 1 < M.2.2.1) (js : List Nat) (hv : lv_pick ((i, .long x) :: lv.filter (fun q => !(q.1 == i) && (!(q.1 == i + 1) && !(q.1 + 1 == i && q.2.category == 2)))) js = lv') (k : Sim G M h mc ms n0 inj kc ks (pc + 2) lv' st σ X) : Sim G M h mc ms n0 inj kc ks pc lv (.long x :: st) σ X := by
  intro r σ' hX p e s m args below meth c H locs ls hM hC hl
  refine lv_lstore hM.1 hM.2.1 hd hl hn rfl (fun ls' hl' => ?_)
  rw [hs_Lfilt2] at hl'
  exact k r σ' hX p e s m args below meth c H locs ls' hM hC (lv_sub hl' js (hs_Lpick (lv := (i, .long x) :: lv.filter (fun q => !(q.1 == i) && (!(q.1 == i + 1) && !(q.1 + 1 == i && q.2.category == 2)))) hv))
theorem hj_astore_n {f : Fin 4} {x : Nat} {lv' : List (Nat × Value)} (hd : decode M.2.1 pc = .ok (.astore_n f, 1)) (hn : (f : Nat) < M.2.2.1) (js : List Nat) (hv : lv_pick (((f : Nat), .ref x) :: lv.filter (fun q => !(q.1 == (f : Nat)) && !(q.1 + 1 == (f : Nat) && q.2.category == 2))) js = lv') (k : Sim G M h mc ms n0 inj kc ks (pc + 1) lv' st σ X) : Sim G M h mc ms n0 inj kc ks pc lv (.ref x :: st) σ X := by
  intro r σ' hX p e s m args below meth c H locs ls hM hC hl
  refine lv_astore_n hM.1 hM.2.1 hd rfl hl hn rfl (fun ls' hl' => ?_)
  rw [hs_Lfilt] at hl'
  exact k r σ' hX p e s m args below meth c H locs ls' hM hC (lv_sub hl' js (hs_Lpick (lv := ((f : Nat), .ref x) :: lv.filter (fun q => !(q.1 == (f : Nat)) && !(q.1 + 1 == (f : Nat) && q.2.category == 2))) hv))
theorem hj_astore {i : Nat} {x : Nat} {lv' : List (Nat × Value)} (hd : decode M.2.1 pc = .ok (.astore i, 2)) (hn : i < M.2.2.1) (js : List Nat) (hv : lv_pick ((i, .ref x) :: lv.filter (fun q => !(q.1 == i) && !(q.1 + 1 == i && q.2.category == 2))) js = lv') (k : Sim G M h mc ms n0 inj kc ks (pc + 2) lv' st σ X) : Sim G M h mc ms n0 inj kc ks pc lv (.ref x :: st) σ X := by
  intro r σ' hX p e s m args below meth c H locs ls hM hC hl
  refine lv_astore hM.1 hM.2.1 hd hl hn rfl (fun ls' hl' => ?_)
  rw [hs_Lfilt] at hl'
  exact k r σ' hX p e s m args below meth c H locs ls' hM hC (lv_sub hl' js (hs_Lpick (lv := (i, .ref x) :: lv.filter (fun q => !(q.1 == i) && !(q.1 + 1 == i && q.2.category == 2))) hv))
theorem hj_iinc {i : Nat} {n : Int} {x : Int32} {lv' : List (Nat × Value)} (j : Nat) (v : Int32) (hd : decode M.2.1 pc = .ok (.iinc i n, 3)) (hk : lv[j]? = some (i, .int x)) (hn : i < M.2.2.1) (hw : Int32.ofInt n = v) (js : List Nat) (hv : lv_pick ((i, .int (x + v)) :: lv.filter (fun q => !(q.1 == i) && !(q.1 + 1 == i && q.2.category == 2))) js = lv') (k : Sim G M h mc ms n0 inj kc ks (pc + 3) lv' st σ X) : Sim G M h mc ms n0 inj kc ks pc lv st σ X := by
  intro r σ' hX p e s m args below meth c H locs ls hM hC hl
  refine lv_iinc (k := j) (x := x) (v := x + v) hM.1 hM.2.1 hd hl (hs_Lget hk) (by rw [hw]) hn rfl (fun ls' hl' => ?_)
  rw [hs_Lfilt] at hl'
  exact k r σ' hX p e s m args below meth c H locs ls' hM hC (lv_sub hl' js (hs_Lpick (lv := (i, .int (x + v)) :: lv.filter (fun q => !(q.1 == i) && !(q.1 + 1 == i && q.2.category == 2))) hv))
theorem hj_loc {lv' : List (Nat × Value)} (js : List Nat) (hv : lv_pick lv js = lv') (k : Sim G M h mc ms n0 inj kc ks pc lv' st σ X) : Sim G M h mc ms n0 inj kc ks pc lv st σ X :=
  fun r σ' hX p e s m args below meth c H locs ls hM hC hl => k r σ' hX p e s m args below meth c H locs ls hM hC (lv_sub hl js (hs_Lpick hv))
theorem hj_none : Sim G M h mc ms n0 inj kc ks pc lv st σ none := fun r σ' hX p e s m args below meth c H locs ls _ _ _ => by cases hX
theorem hj_ite {cd : Prop} [Decidable cd] {X1 X2 : Option (ρ × Sto)} (kt : cd → Sim G M h mc ms n0 inj kc ks pc lv st σ X1) (kf : ¬ cd → Sim G M h mc ms n0 inj kc ks pc lv st σ X2) : Sim G M h mc ms n0 inj kc ks pc lv st σ (if cd then X1 else X2) := by
  by_cases hc : cd
  · rw [if_pos hc]; exact kt hc
  · rw [if_neg hc]; exact kf hc
theorem hj_goto {off : Int} (tgt : Nat) (hd : decode M.2.1 pc = .ok (.goto off, 3)) (ht : (pc : Int) + off = (tgt : Int)) (k : Sim G M h mc ms n0 inj kc ks tgt lv st σ X) : Sim G M h mc ms n0 inj kc ks pc lv st σ X :=
  fun r σ' hX p e s m args below meth c H locs ls hM hC hl => lv_goto hM.1 hM.2.1 hd ht (k r σ' hX p e s m args below meth c H locs ls hM hC hl)
theorem hj_if_eq {x : Int32} {off : Int} {X1 X2 : Option (ρ × Sto)} (tgt : Nat) (hd : decode M.2.1 pc = .ok (.ifCond .eq off, 3)) (ht : (pc : Int) + off = (tgt : Int)) (kt : x = 0 → Sim G M h mc ms n0 inj kc ks tgt lv st σ X1) (kf : ¬ x = 0 → Sim G M h mc ms n0 inj kc ks (pc + 3) lv st σ X2) : Sim G M h mc ms n0 inj kc ks pc lv (.int x :: st) σ (if x = 0 then X1 else X2) := by
  intro r σ' hX p e s m args below meth c H locs ls hM hC hl
  refine lv_if_eq hM.1 hM.2.1 hd ht (fun hc => ?_) (fun hc => ?_)
  · rw [if_pos hc] at hX; exact kt hc r σ' hX p e s m args below meth c H locs ls hM hC hl
  · rw [if_neg hc] at hX; exact kf hc r σ' hX p e s m args below meth c H locs ls hM hC hl
theorem hj_if_lt {x : Int32} {off : Int} {X1 X2 : Option (ρ × Sto)} (tgt : Nat) (hd : decode M.2.1 pc = .ok (.ifCond .lt off, 3)) (ht : (pc : Int) + off = (tgt : Int)) (kt : x < 0 → Sim G M h mc ms n0 inj kc ks tgt lv st σ X1) (kf : ¬ x < 0 → Sim G M h mc ms n0 inj kc ks (pc + 3) lv st σ X2) : Sim G M h mc ms n0 inj kc ks pc lv (.int x :: st) σ (if x < 0 then X1 else X2) := by
  intro r σ' hX p e s m args below meth c H locs ls hM hC hl
  refine lv_if_lt hM.1 hM.2.1 hd ht (fun hc => ?_) (fun hc => ?_)
  · rw [if_pos hc] at hX; exact kt hc r σ' hX p e s m args below meth c H locs ls hM hC hl
  · rw [if_neg hc] at hX; exact kf hc r σ' hX p e s m args below meth c H locs ls hM hC hl
theorem hj_if_ge {x : Int32} {off : Int} {X1 X2 : Option (ρ × Sto)} (tgt : Nat) (hd : decode M.2.1 pc = .ok (.ifCond .ge off, 3)) (ht : (pc : Int) + off = (tgt : Int)) (kt : 0 ≤ x → Sim G M h mc ms n0 inj kc ks tgt lv st σ X1) (kf : ¬ 0 ≤ x → Sim G M h mc ms n0 inj kc ks (pc + 3) lv st σ X2) : Sim G M h mc ms n0 inj kc ks pc lv (.int x :: st) σ (if 0 ≤ x then X1 else X2) := by
  intro r σ' hX p e s m args below meth c H locs ls hM hC hl
  refine lv_if_ge hM.1 hM.2.1 hd ht (fun hc => ?_) (fun hc => ?_)
  · rw [if_pos hc] at hX; exact kt hc r σ' hX p e s m args below meth c H locs ls hM hC hl
  · rw [if_neg hc] at hX; exact kf hc r σ' hX p e s m args below meth c H locs ls hM hC hl
theorem hj_if_gt {x : Int32} {off : Int} {X1 X2 : Option (ρ × Sto)} (tgt : Nat) (hd : decode M.2.1 pc = .ok (.ifCond .gt off, 3)) (ht : (pc : Int) + off = (tgt : Int)) (kt : 0 < x → Sim G M h mc ms n0 inj kc ks tgt lv st σ X1) (kf : ¬ 0 < x → Sim G M h mc ms n0 inj kc ks (pc + 3) lv st σ X2) : Sim G M h mc ms n0 inj kc ks pc lv (.int x :: st) σ (if 0 < x then X1 else X2) := by
  intro r σ' hX p e s m args below meth c H locs ls hM hC hl
  refine lv_if_gt hM.1 hM.2.1 hd ht (fun hc => ?_) (fun hc => ?_)
  · rw [if_pos hc] at hX; exact kt hc r σ' hX p e s m args below meth c H locs ls hM hC hl
  · rw [if_neg hc] at hX; exact kf hc r σ' hX p e s m args below meth c H locs ls hM hC hl
theorem hj_if_le {x : Int32} {off : Int} {X1 X2 : Option (ρ × Sto)} (tgt : Nat) (hd : decode M.2.1 pc = .ok (.ifCond .le off, 3)) (ht : (pc : Int) + off = (tgt : Int)) (kt : x ≤ 0 → Sim G M h mc ms n0 inj kc ks tgt lv st σ X1) (kf : ¬ x ≤ 0 → Sim G M h mc ms n0 inj kc ks (pc + 3) lv st σ X2) : Sim G M h mc ms n0 inj kc ks pc lv (.int x :: st) σ (if x ≤ 0 then X1 else X2) := by
  intro r σ' hX p e s m args below meth c H locs ls hM hC hl
  refine lv_if_le hM.1 hM.2.1 hd ht (fun hc => ?_) (fun hc => ?_)
  · rw [if_pos hc] at hX; exact kt hc r σ' hX p e s m args below meth c H locs ls hM hC hl
  · rw [if_neg hc] at hX; exact kf hc r σ' hX p e s m args below meth c H locs ls hM hC hl
theorem hj_icmp_eq {x y : Int32} {off : Int} {X1 X2 : Option (ρ × Sto)} (tgt : Nat) (hd : decode M.2.1 pc = .ok (.if_icmp .eq off, 3)) (ht : (pc : Int) + off = (tgt : Int)) (kt : x = y → Sim G M h mc ms n0 inj kc ks tgt lv st σ X1) (kf : ¬ x = y → Sim G M h mc ms n0 inj kc ks (pc + 3) lv st σ X2) : Sim G M h mc ms n0 inj kc ks pc lv (.int y :: .int x :: st) σ (if x = y then X1 else X2) := by
  intro r σ' hX p e s m args below meth c H locs ls hM hC hl
  refine lv_icmp_eq hM.1 hM.2.1 hd ht (fun hc => ?_) (fun hc => ?_)
  · rw [if_pos hc] at hX; exact kt hc r σ' hX p e s m args below meth c H locs ls hM hC hl
  · rw [if_neg hc] at hX; exact kf hc r σ' hX p e s m args below meth c H locs ls hM hC hl
theorem hj_icmp_lt {x y : Int32} {off : Int} {X1 X2 : Option (ρ × Sto)} (tgt : Nat) (hd : decode M.2.1 pc = .ok (.if_icmp .lt off, 3)) (ht : (pc : Int) + off = (tgt : Int)) (kt : x < y → Sim G M h mc ms n0 inj kc ks tgt lv st σ X1) (kf : ¬ x < y → Sim G M h mc ms n0 inj kc ks (pc + 3) lv st σ X2) : Sim G M h mc ms n0 inj kc ks pc lv (.int y :: .int x :: st) σ (if x < y then X1 else X2) := by
  intro r σ' hX p e s m args below meth c H locs ls hM hC hl
  refine lv_icmp_lt hM.1 hM.2.1 hd ht (fun hc => ?_) (fun hc => ?_)
  · rw [if_pos hc] at hX; exact kt hc r σ' hX p e s m args below meth c H locs ls hM hC hl
  · rw [if_neg hc] at hX; exact kf hc r σ' hX p e s m args below meth c H locs ls hM hC hl
theorem hj_icmp_ge {x y : Int32} {off : Int} {X1 X2 : Option (ρ × Sto)} (tgt : Nat) (hd : decode M.2.1 pc = .ok (.if_icmp .ge off, 3)) (ht : (pc : Int) + off = (tgt : Int)) (kt : y ≤ x → Sim G M h mc ms n0 inj kc ks tgt lv st σ X1) (kf : ¬ y ≤ x → Sim G M h mc ms n0 inj kc ks (pc + 3) lv st σ X2) : Sim G M h mc ms n0 inj kc ks pc lv (.int y :: .int x :: st) σ (if y ≤ x then X1 else X2) := by
  intro r σ' hX p e s m args below meth c H locs ls hM hC hl
  refine lv_icmp_ge hM.1 hM.2.1 hd ht (fun hc => ?_) (fun hc => ?_)
  · rw [if_pos hc] at hX; exact kt hc r σ' hX p e s m args below meth c H locs ls hM hC hl
  · rw [if_neg hc] at hX; exact kf hc r σ' hX p e s m args below meth c H locs ls hM hC hl
theorem hj_icmp_gt {x y : Int32} {off : Int} {X1 X2 : Option (ρ × Sto)} (tgt : Nat) (hd : decode M.2.1 pc = .ok (.if_icmp .gt off, 3)) (ht : (pc : Int) + off = (tgt : Int)) (kt : y < x → Sim G M h mc ms n0 inj kc ks tgt lv st σ X1) (kf : ¬ y < x → Sim G M h mc ms n0 inj kc ks (pc + 3) lv st σ X2) : Sim G M h mc ms n0 inj kc ks pc lv (.int y :: .int x :: st) σ (if y < x then X1 else X2) := by
  intro r σ' hX p e s m args below meth c H locs ls hM hC hl
  refine lv_icmp_gt hM.1 hM.2.1 hd ht (fun hc => ?_) (fun hc => ?_)
  · rw [if_pos hc] at hX; exact kt hc r σ' hX p e s m args below meth c H locs ls hM hC hl
  · rw [if_neg hc] at hX; exact kf hc r σ' hX p e s m args below meth c H locs ls hM hC hl
theorem hj_icmp_le {x y : Int32} {off : Int} {X1 X2 : Option (ρ × Sto)} (tgt : Nat) (hd : decode M.2.1 pc = .ok (.if_icmp .le off, 3)) (ht : (pc : Int) + off = (tgt : Int)) (kt : x ≤ y → Sim G M h mc ms n0 inj kc ks tgt lv st σ X1) (kf : ¬ x ≤ y → Sim G M h mc ms n0 inj kc ks (pc + 3) lv st σ X2) : Sim G M h mc ms n0 inj kc ks pc lv (.int y :: .int x :: st) σ (if x ≤ y then X1 else X2) := by
  intro r σ' hX p e s m args below meth c H locs ls hM hC hl
  refine lv_icmp_le hM.1 hM.2.1 hd ht (fun hc => ?_) (fun hc => ?_)
  · rw [if_pos hc] at hX; exact kt hc r σ' hX p e s m args below meth c H locs ls hM hC hl
  · rw [if_neg hc] at hX; exact kf hc r σ' hX p e s m args below meth c H locs ls hM hC hl
theorem hj_if_ne {x : Int32} {off : Int} {X1 X2 : Option (ρ × Sto)} (tgt : Nat) (hd : decode M.2.1 pc = .ok (.ifCond .ne off, 3)) (ht : (pc : Int) + off = (tgt : Int)) (kt : ¬ x = 0 → Sim G M h mc ms n0 inj kc ks tgt lv st σ X1) (kf : x = 0 → Sim G M h mc ms n0 inj kc ks (pc + 3) lv st σ X2) : Sim G M h mc ms n0 inj kc ks pc lv (.int x :: st) σ (if x = 0 then X2 else X1) := by
  intro r σ' hX p e s m args below meth c H locs ls hM hC hl
  refine lv_if_ne hM.1 hM.2.1 hd ht (fun hc => ?_) (fun hc => ?_)
  · rw [if_neg hc] at hX; exact kt hc r σ' hX p e s m args below meth c H locs ls hM hC hl
  · rw [if_pos hc] at hX; exact kf hc r σ' hX p e s m args below meth c H locs ls hM hC hl
theorem hj_icmp_ne {x y : Int32} {off : Int} {X1 X2 : Option (ρ × Sto)} (tgt : Nat) (hd : decode M.2.1 pc = .ok (.if_icmp .ne off, 3)) (ht : (pc : Int) + off = (tgt : Int)) (kt : ¬ x = y → Sim G M h mc ms n0 inj kc ks tgt lv st σ X1) (kf : x = y → Sim G M h mc ms n0 inj kc ks (pc + 3) lv st σ X2) : Sim G M h mc ms n0 inj kc ks pc lv (.int y :: .int x :: st) σ (if x = y then X2 else X1) := by
  intro r σ' hX p e s m args below meth c H locs ls hM hC hl
  refine lv_icmp_ne hM.1 hM.2.1 hd ht (fun hc => ?_) (fun hc => ?_)
  · rw [if_neg hc] at hX; exact kt hc r σ' hX p e s m args below meth c H locs ls hM hC hl
  · rw [if_pos hc] at hX; exact kf hc r σ' hX p e s m args below meth c H locs ls hM hC hl
theorem hj_tin {dflt lo hi : Int} {offs : Array Int} {len : Nat} {x : Int32} (v : Int32) (off : Int) (tgt : Nat) (hd : decode M.2.1 pc = .ok (.tableswitch dflt lo hi offs, len)) (hx : x = v) (h1 : ¬ v.toInt < lo) (h2 : ¬ hi < v.toInt) (ho : offs[(v.toInt - lo).toNat]? = some off) (ht : (pc : Int) + off = (tgt : Int)) (k : Sim G M h mc ms n0 inj kc ks tgt lv st σ X) : Sim G M h mc ms n0 inj kc ks pc lv (.int x :: st) σ X := by
  subst hx
  exact fun r σ' hX p e s m args below meth c H locs ls hM hC hl => lv_tableIn hM.1 hM.2.1 hd h1 h2 ho ht (k r σ' hX p e s m args below meth c H locs ls hM hC hl)
theorem hj_tout {dflt lo hi : Int} {offs : Array Int} {len : Nat} {x : Int32} (tgt : Nat) (hd : decode M.2.1 pc = .ok (.tableswitch dflt lo hi offs, len)) (hx : x.toInt < lo ∨ hi < x.toInt) (ht : (pc : Int) + dflt = (tgt : Int)) (k : Sim G M h mc ms n0 inj kc ks tgt lv st σ X) : Sim G M h mc ms n0 inj kc ks pc lv (.int x :: st) σ X :=
  fun r σ' hX p e s m args below meth c H locs ls hM hC hl => lv_tableOut hM.1 hM.2.1 hd hx ht (k r σ' hX p e s m args below meth c H locs ls hM hC hl)
theorem hj_lsw {dflt : Int} {ps : Array (Int × Int)} {len : Nat} {x : Int32} (off : Int) (tgt : Nat) (hd : decode M.2.1 pc = .ok (.lookupswitch dflt ps, len)) (hp : (ps.toList.zip (ps.toList.drop 1)).all (fun (a, next) => a.1 < next.1) = true) (ho : Op.lookupswitch.offset ps.toList dflt x.toInt = off) (ht : (pc : Int) + off = (tgt : Int)) (k : Sim G M h mc ms n0 inj kc ks tgt lv st σ X) : Sim G M h mc ms n0 inj kc ks pc lv (.int x :: st) σ X :=
  fun r σ' hX p e s m args below meth c H locs ls hM hC hl => lv_lookup hM.1 hM.2.1 hd hp ho ht (k r σ' hX p e s m args below meth c H locs ls hM hC hl)
theorem hj_ldc {idx : Nat} (v : Int32) (hc : Cond.constant M.1.cls idx v ∈ hs_T) (hd : decode M.2.1 pc = .ok (.ldc idx, 2)) (k : Sim G M h mc ms n0 inj kc ks (pc + 2) lv (.int v :: st) σ X) : Sim G M h mc ms n0 inj kc ks pc lv st σ X :=
  fun r σ' hX p e s m args below meth c H locs ls hM hC hl => lv_ldc hM.1 hM.2.1 hM.2.2.2.2.1 (hM.2.2.2.2.2.1 _ hc) hd (k r σ' hX p e s m args below meth c H locs ls hM hC hl)
theorem hj_ldcw {idx : Nat} (v : Int32) (hc : Cond.constant M.1.cls idx v ∈ hs_T) (hd : decode M.2.1 pc = .ok (.ldc_w idx, 3)) (k : Sim G M h mc ms n0 inj kc ks (pc + 3) lv (.int v :: st) σ X) : Sim G M h mc ms n0 inj kc ks pc lv st σ X :=
  fun r σ' hX p e s m args below meth c H locs ls hM hC hl => lv_ldcw hM.1 hM.2.1 hM.2.2.2.2.1 (hM.2.2.2.2.2.1 _ hc) hd (k r σ' hX p e s m args below meth c H locs ls hM hC hl)
theorem hj_ldc2 {idx : Nat} (v : Int64) (hc : Cond.constantLong M.1.cls idx v ∈ hs_T) (hd : decode M.2.1 pc = .ok (.ldc2_w idx, 3)) (k : Sim G M h mc ms n0 inj kc ks (pc + 3) lv (.long v :: st) σ X) : Sim G M h mc ms n0 inj kc ks pc lv st σ X :=
  fun r σ' hX p e s m args below meth c H locs ls hM hC hl => lv_ldc2 hM.1 hM.2.1 hM.2.2.2.2.1 (hM.2.2.2.2.2.1 _ hc) hd (k r σ' hX p e s m args below meth c H locs ls hM hC hl)
theorem hj_iret {lv : List (Nat × Value)} {v : Int32} (hd : decode M.2.1 pc = .ok (.ireturn, 1)) (hr : M.2.2.2 = some .int) (hk : kc = mc) (hs : ks ≤ ms) : Sim G M h mc ms n0 jI kc ks pc lv [.int v] σ (some (v, σ)) := by
  subst hk
  intro r σ' hX p e s m args below meth c H locs ls hM hC hl
  cases hX
  refine W.widen (Nat.le_refl _) hs ?_
  exact W.iret hM.1 hM.2.1 (hM.2.2.1.trans hr) (fun t ht hW => ⟨⟨rfl, by rw [ht]; exact hC.1, hC.2.1, hC.2.2.2⟩, hC.2.2.1.F ht⟩) hC.2.2.1.2.2 hd hM.2.2.2.2.2.2.1
theorem hj_lret {lv : List (Nat × Value)} {v : Int64} (hd : decode M.2.1 pc = .ok (.lreturn, 1)) (hr : M.2.2.2 = some .long) (hk : kc = mc) (hs : ks ≤ ms) : Sim G M h mc ms n0 jL kc ks pc lv [.long v] σ (some (v, σ)) := by
  subst hk
  intro r σ' hX p e s m args below meth c H locs ls hM hC hl
  cases hX
  refine W.widen (Nat.le_refl _) hs ?_
  exact W.lret hM.1 hM.2.1 (hM.2.2.1.trans hr) (fun t ht hW => ⟨⟨rfl, by rw [ht]; exact hC.1, hC.2.1, hC.2.2.2⟩, hC.2.2.1.F ht⟩) hC.2.2.1.2.2 hd hM.2.2.2.2.2.2.1
theorem hj_zret {lv : List (Nat × Value)} {v : Int32} (hd : decode M.2.1 pc = .ok (.ireturn, 1)) (hr : M.2.2.2 = some .boolean) (hz : v = 0 ∨ v = 1) (hk : kc = mc) (hs : ks ≤ ms) : Sim G M h mc ms n0 jI kc ks pc lv [.int v] σ (some (v, σ)) := by
  subst hk
  intro r σ' hX p e s m args below meth c H locs ls hM hC hl
  cases hX
  refine W.widen (Nat.le_refl _) hs ?_
  exact W.zret hM.1 hM.2.1 (hM.2.2.1.trans hr) (by rcases hz with rfl | rfl <;> rfl) (fun t ht hW => ⟨⟨rfl, by rw [ht]; exact hC.1, hC.2.1, hC.2.2.2⟩, hC.2.2.1.F ht⟩) hC.2.2.1.2.2 hd hM.2.2.2.2.2.2.1
theorem hj_rZ {lv : List (Nat × Value)} {v : Int32} (hd : decode M.2.1 pc = .ok (.ireturn, 1)) (hr : M.2.2.2 = some .boolean) (hk : kc = mc) (hs : ks ≤ ms) : Sim G M h mc ms n0 jI kc ks pc lv [.int v] σ (rZ v σ) :=
  hj_ite (fun hz => hj_zret hd hr hz hk hs) (fun _ => hj_none)
theorem hj_vret {lv : List (Nat × Value)} (hd : decode M.2.1 pc = .ok (.return_, 1)) (hr : M.2.2.2 = none) (hk : kc = mc) (hs : ks ≤ ms) : Sim G M h mc ms n0 jV kc ks pc lv [] σ (some ((), σ)) := by
  subst hk
  intro r σ' hX p e s m args below meth c H locs ls hM hC hl
  cases hX
  refine W.widen (Nat.le_refl _) hs ?_
  exact W.vret hM.1 hM.2.1 (hM.2.2.1.trans hr) (fun t ht hW => ⟨⟨rfl, by rw [ht]; exact hC.1, hC.2.1, hC.2.2.2⟩, hC.2.2.1.F ht⟩) hC.2.2.1.2.2 hd hM.2.2.2.2.2.2.1
end HJ
