/-! ===== THE LAW ===== -/
def lw_A (s : State) : Nat → Prop := fun q => s.heap.size ≤ q
def LI (G1 G2 : GP) (σ1 σ2 : Sto) (s : State) (H : Heap) (locs : List Loc) : Prop :=
  va_P G1.2.1 vwCl (hs_w G1.2.2.1 G1.2.2.2.1 σ1) H ∧ va_P G2.2.1 vwCl (hs_w G2.2.2.1 G2.2.2.2.1 σ2) H ∧ va_D (lw_A s) (hs_w G1.2.2.1 G1.2.2.2.1 σ1) ∧ va_D (lw_A s) (hs_w G2.2.2.1 G2.2.2.2.1 σ2) ∧ (G1.2.2.1 + σ1.1 ≤ G2.2.2.1 ∨ G2.2.2.1 + σ2.1 ≤ G1.2.2.1) ∧ va_S (lw_A s) s.heap H locs
theorem LI.swap {G1 G2 : GP} {σ1 σ2 : Sto} {s : State} {H : Heap} {locs : List Loc} (h : LI G1 G2 σ1 σ2 s H locs) : LI G2 G1 σ2 σ1 s H locs := ⟨h.2.1, h.1, h.2.2.2.1, h.2.2.1, h.2.2.2.2.1.symm, h.2.2.2.2.2⟩
theorem lw_cmp (x : Int64) : lg_cmp x x = 0 := by simp [lg_cmp]
theorem hs_AL {G : GP} {s : State} {H : Heap} {σ : Sto} (hD : va_D (lw_A s) (hs_w G.2.2.1 G.2.2.2.1 σ)) (hz : s.heap.size ≤ H.size) : ∀ a, hs_A G.2.2.1 σ.1 H.size a → lw_A s a := by
  intro a ha
  rcases ha with ⟨h1, h2⟩ | h1
  · have h3 := hD.2 (a - G.2.2.1) _ (hs_wget (by omega))
    have e1 : G.2.2.1 + (a - G.2.2.1) = a := by omega
    rw [← e1]
    exact h3
  · exact Nat.le_trans hz h1
section LWC
variable {p : Program} {e : Env} {s : State} {m : MethodId} {args : Array Value} {below : List Frame} {meth : Method} {c : Code} {H : Heap} {locs : List Loc} {ls : Array Slot} {Q : State → Prop} {R : Room} {cells slots pc : Nat} {cc : ByteArray}
theorem lw_call {G1 G2 : GP} {σ1 σ2 σ1' : Sto} {ci idx h' nL N : Nat} {T : u_T} {own : String} {M' : Mt} {ρ' : Type} {inj' : ρ' → Option Value} {r1 : ρ'} {As rest st0 : List Value} {F : Option (ρ' × Sto)} {fs : List Value} (hx : p.tables.exec = Jvm.exec) (hb : c.code = cc) (hml : c.maxLocals = nL) (hown : s.vm.findClass own = some m.cls) (hts : ∀ w ∈ hs_T, w.before args s = true) (hX : hs_X G1 (lw_A s) s s.heap) (hI : LI G1 G2 σ1 σ2 s H locs) (hls : ls.size = nL)
    (hF : hs_MF M' As.length) (hV : Cond.instanceMethod M'.1 ∈ hs_T ∧ Cond.selects M'.1.cls M'.1 M'.1 ∈ hs_T) (hc : vwCl[ci]? = some (M'.1.cls, T, N)) (hL : Cond.methodLink own idx M'.1 ∈ hs_T) (hd : decode cc pc = .ok (.invokevirtual idx, 3)) (hMe : Me G1 M' h' 0 0 inj' (.ref 0 :: As) σ1 F) (hF1 : F = some (r1, σ1')) (ho : hs_o σ1 ci 0 = some fs) (hR : h' + 1 ≤ R.frames ∧ 8 + (M'.2.2.1 + 11) + 64 * h' ≤ R.locals)
    (hAs : As.map (hs_v G1.2.2.1) = As) (hinj : (inj' r1).map (hs_v G1.2.2.1) = inj' r1) (hst : st0 = As.reverse ++ .ref G1.2.2.1 :: rest) (hsum : (rest.map fun v => v.category).sum ≤ 8) (hk : cells ≤ R.cells ∧ slots ≤ R.slots)
    (kk : ∀ (H1 : Heap) (locs1 : List Loc), LI G1 G2 σ1' σ2 s H1 locs1 → W p G1.1 e R s m args below meth c H1 locs1 cells slots Q (F0 m (pc + 3) ls ((inj' r1).toList ++ rest))) : W p G1.1 e R s m args below meth c H locs cells slots Q (F0 m pc ls st0) := by
  subst hst
  obtain ⟨hP1, hP2, hD1, hD2, hdis, hS⟩ := hI
  have hMet := hMe r1 σ1' hF1 H.size (fun z => absurd z (Nat.lt_irrefl 0))
  obtain ⟨f1, f2, f3, f4, f5⟩ := hF
  have hAL := hs_AL (H := H) hD1 hS.1
  have hrecv := va_recv hX.1 hP1 hc (hs_oat ho)
  have hpre : PreS s H (va_Pc ((.ref 0 :: As).map (hs_v G1.2.2.1)) (fun U => U.heap.size = H.size ∧ va_P G1.2.1 vwCl (hs_w G1.2.2.1 G1.2.2.2.1 σ1) U.heap ∧ hs_X G1 (hs_A G1.2.2.1 σ1.1 H.size) U U.heap ∧ va_D (fun _ => True) (hs_w G1.2.2.1 G1.2.2.2.1 σ1))) ((.ref 0 :: As).map (hs_v G1.2.2.1)) := by
    refine ⟨fun a U g mk hq => ?_, fun U hU hW => ⟨rfl, by rw [hU], by rw [hU]; exact hP1, ?_, hD1.weaken (fun _ _ _ _ => trivial)⟩⟩
    · obtain ⟨q1, q2, q3, q4, q5⟩ := hq
      exact ⟨q1, q2, q3, hs_X.same (u := U) rfl q4, q5⟩
    · rw [hU]
      exact ((hX.kept hS.2.1).warm hW).narrow hAL
  rw [List.map_cons, hAs] at hMet hpre
  have hrun : va_Run p G1.1 e R s m args below meth c H locs cells slots 0 0 (F0 m pc ls (As.reverse ++ .ref G1.2.2.1 :: rest)) rest (hs_Q G1 σ1.1 0 inj' r1 σ1' (Value.ref G1.2.2.1 :: As).toArray) (hs_A G1.2.2.1 σ1.1 H.size) :=
    va_runV (As := As) (n := As.length) (Ts := hs_T) (own := own) (C := M'.1.cls) (b := G1.2.2.1) ⟨hx, hb, hml, hown, hts⟩ hMet ⟨callB_of As.length hts (hs_good f1) rfl rfl rfl (hts _ f2) (hts _ hL) ⟨f3, f4, f5⟩ hR, hts _ hV.1, hts _ hV.2⟩ ⟨hpre.1, hrecv, hpre.2⟩ rfl rfl hls rfl (lv_room hsum) hd ⟨hk.1, hk.2⟩
  intro T0 hT0 X0
  obtain ⟨v, st₀, t, T', L, h0, X', hL', e1, e2, ⟨⟨hv, hp, hdd, hn⟩, hz, hkk⟩, stp⟩ := hrun T0 hT0 X0
  have hv' : v = inj' r1 := by rw [hinj] at hv; cases hv; rfl
  rw [h0] at hz hkk hdd
  have hS1 : va_S (lw_A s) s.heap t.heap (locs ++ L) := by
    refine ⟨Nat.le_trans hS.1 hz, fun q g1 g2 => ?_, fun q hq => ?_⟩
    · rw [hkk q (Nat.lt_of_lt_of_le g1 hS.1) (fun z => g2 (hAL q z))]
      exact hS.2.1 q g1 g2
    · rcases List.mem_append.mp hq with g | g
      · exact hS.2.2 q g
      · exact hAL _ (hL' q g)
  have hP2' : va_P G2.2.1 vwCl (hs_w G2.2.2.1 G2.2.2.2.1 σ2) t.heap := by
    refine hP2.kept (fun k q hq => ?_)
    obtain ⟨g1, g2⟩ := hs_wat hq
    have g3 := (hP2 k q hq).lt
    refine hkk _ g3 ?_
    rw [g2] at g3 ⊢
    dsimp only at g3 ⊢
    rintro (⟨z1, z2⟩ | z1)
    · omega
    · omega
  have hn' : σ1'.1 = σ1.1 := by rw [hn]; rfl
  have hI1 : LI G1 G2 σ1' σ2 s t.heap (locs ++ L) := ⟨hp, hP2', hdd.weaken (fun _ _ _ g => hAL _ g), hD2, by rw [hn']; exact hdis, hS1⟩
  obtain ⟨t2, a1, b1⟩ := kk t.heap (locs ++ L) hI1 T' e1 X'
  refine ⟨t2, stp t2 ?_, b1⟩
  rw [hv']
  exact a1
end LWC

def R_law : String := "EdgePileLaw"
def lw_P (b : Addr) (xs : List Int32) (args : Array Value) (s : State) : Prop := args = #[.ref b] ∧ s.IntsAt b xs ∧ xs.length ≤ 3072 ∧ (Jvm.Cond.and given_1 narrow_1).before args s = true
def lw_Q (_ : Array Value) (s : State) (o : Outcome) (t : State) : Prop := o = .returned (some (.int 1)) ∧ Framed s o t [] 600000 7302250
def lw_Z (below : List Frame) (a : Array Value) (s : State) : State → Prop := fun t => ∃ o, t.status = .running ∧ Ended t below o ∧ lw_Q a s o t
/-- the law's own end, with 1 on the stack, nothing written that was there before, its room as the claim has it -/
theorem lw_ret {p : Program} {l : Launch} {e : Env} {s : State} {m : MethodId} {below : List Frame} {meth : Method} {c : Code} {b : Nat} (hx : p.tables.exec = Jvm.exec) (hb : c.code = code) (hr : meth.sig.returnType = ret) (hlocks : meth.locks = false) {pc : Nat} {H : Heap} {ls : Array Slot} (hdg : decode code pc = .ok (.ireturn, 1)) : W p l e room_1 s m #[Value.ref b] below meth c H [] 600000 7302250 (lw_Z below #[Value.ref b] s) (F0 m pc ls [.int 1]) := by
  intro T hT X
  obtain ⟨fs, hret, hrun, hended, hW, hframe⟩ := X.leave (v := some (.int 1)) (hlocks := hlocks) (fun h => by rw [hr] at h; cases h)
  have hmeth' : T.vm.method? m = some meth := X.method'
  refine ⟨T.setFrames fs, ?_, .returned (some (.int 1)), hrun, hended, rfl, ⟨_, rfl⟩, hW, hframe⟩
  jvm_step X.here [X.here.top, hx, hb, hdg, hmeth', hr, ret, narrow_b1]
  (try refine ⟨rfl, ?_⟩); (try refine ⟨rfl, ?_⟩)
  first | (intro acts; rw [hret _ acts rfl rfl rfl]) | rw [hret _ _ rfl rfl rfl]
  exact Steps.refl _
/-- what holds at the law's entry: the machine, the code, the tables' words (any of lw_tbl by 'hts w (by decide +kernel)'), the script of L ints xs at the cell b, what the Statement gives of the start (any of its parts by flat_of_before) -/
def lw_At (p : Program) (s : State) (m : MethodId) (meth : Method) (c : Code) (b L : Nat) (xs : Nat → Int32) : Prop :=
  p.tables.exec = Jvm.exec ∧ c.code = code ∧ meth.sig.returnType = ret ∧ c.maxLocals = 4 ∧ s.vm.findClass R_law = some m.cls ∧ (∀ w ∈ lw_tbl, w.before #[Value.ref b] s = true) ∧ va_X b L xs s s.heap ∧ b < s.heap.size ∧ meth.locks = false ∧ (Jvm.Cond.and given_1 narrow_1).before #[Value.ref b] s = true

theorem mfX11_feed : hs_MF mX11_feed 5 := ⟨(hs_inT 613 (by decide +kernel) rfl), (hs_inT 133 (by decide +kernel) rfl), by decide +kernel, by decide +kernel, by decide +kernel⟩
theorem mvX11_feed : Cond.instanceMethod mX11_feed.1 ∈ hs_T ∧ Cond.selects mX11_feed.1.cls mX11_feed.1 mX11_feed.1 ∈ hs_T := ⟨(hs_inT 611 (by decide +kernel) rfl), hs_inT 612 (by decide +kernel) rfl⟩
theorem mfX12_feed : hs_MF mX12_feed 5 := ⟨(hs_inT 1408 (by decide +kernel) rfl), (hs_inT 149 (by decide +kernel) rfl), by decide +kernel, by decide +kernel, by decide +kernel⟩
theorem mvX12_feed : Cond.instanceMethod mX12_feed.1 ∈ hs_T ∧ Cond.selects mX12_feed.1.cls mX12_feed.1 mX12_feed.1 ∈ hs_T := ⟨(hs_inT 1406 (by decide +kernel) rfl), hs_inT 1407 (by decide +kernel) rfl⟩
theorem mfX11_back : hs_MF mX11_back 1 := ⟨(hs_inT 621 (by decide +kernel) rfl), (hs_inT 133 (by decide +kernel) rfl), by decide +kernel, by decide +kernel, by decide +kernel⟩
theorem mvX11_back : Cond.instanceMethod mX11_back.1 ∈ hs_T ∧ Cond.selects mX11_back.1.cls mX11_back.1 mX11_back.1 ∈ hs_T := ⟨(hs_inT 619 (by decide +kernel) rfl), hs_inT 620 (by decide +kernel) rfl⟩
theorem mfX12_back : hs_MF mX12_back 1 := ⟨(hs_inT 1416 (by decide +kernel) rfl), (hs_inT 149 (by decide +kernel) rfl), by decide +kernel, by decide +kernel, by decide +kernel⟩
theorem mvX12_back : Cond.instanceMethod mX12_back.1 ∈ hs_T ∧ Cond.selects mX12_back.1.cls mX12_back.1 mX12_back.1 ∈ hs_T := ⟨(hs_inT 1414 (by decide +kernel) rfl), hs_inT 1415 (by decide +kernel) rfl⟩
theorem mfX11_read : hs_MF mX11_read 0 := ⟨(hs_inT 625 (by decide +kernel) rfl), (hs_inT 133 (by decide +kernel) rfl), by decide +kernel, by decide +kernel, by decide +kernel⟩
theorem mvX11_read : Cond.instanceMethod mX11_read.1 ∈ hs_T ∧ Cond.selects mX11_read.1.cls mX11_read.1 mX11_read.1 ∈ hs_T := ⟨(hs_inT 623 (by decide +kernel) rfl), hs_inT 624 (by decide +kernel) rfl⟩
theorem mfX12_read : hs_MF mX12_read 0 := ⟨(hs_inT 1420 (by decide +kernel) rfl), (hs_inT 149 (by decide +kernel) rfl), by decide +kernel, by decide +kernel, by decide +kernel⟩
theorem mvX12_read : Cond.instanceMethod mX12_read.1 ∈ hs_T ∧ Cond.selects mX12_read.1.cls mX12_read.1 mX12_read.1 ∈ hs_T := ⟨(hs_inT 1418 (by decide +kernel) rfl), hs_inT 1419 (by decide +kernel) rfl⟩
theorem mfX11_place : hs_MF mX11_place 0 := ⟨(hs_inT 826 (by decide +kernel) rfl), (hs_inT 133 (by decide +kernel) rfl), by decide +kernel, by decide +kernel, by decide +kernel⟩
theorem mvX11_place : Cond.instanceMethod mX11_place.1 ∈ hs_T ∧ Cond.selects mX11_place.1.cls mX11_place.1 mX11_place.1 ∈ hs_T := ⟨(hs_inT 824 (by decide +kernel) rfl), hs_inT 825 (by decide +kernel) rfl⟩
theorem mfX12_place : hs_MF mX12_place 0 := ⟨(hs_inT 1518 (by decide +kernel) rfl), (hs_inT 149 (by decide +kernel) rfl), by decide +kernel, by decide +kernel, by decide +kernel⟩
theorem mvX12_place : Cond.instanceMethod mX12_place.1 ∈ hs_T ∧ Cond.selects mX12_place.1.cls mX12_place.1 mX12_place.1 ∈ hs_T := ⟨(hs_inT 1516 (by decide +kernel) rfl), hs_inT 1517 (by decide +kernel) rfl⟩
theorem mfX11_book : hs_MF mX11_book 2 := ⟨(hs_inT 830 (by decide +kernel) rfl), (hs_inT 133 (by decide +kernel) rfl), by decide +kernel, by decide +kernel, by decide +kernel⟩
theorem mvX11_book : Cond.instanceMethod mX11_book.1 ∈ hs_T ∧ Cond.selects mX11_book.1.cls mX11_book.1 mX11_book.1 ∈ hs_T := ⟨(hs_inT 828 (by decide +kernel) rfl), hs_inT 829 (by decide +kernel) rfl⟩
theorem mfX12_book : hs_MF mX12_book 2 := ⟨(hs_inT 1522 (by decide +kernel) rfl), (hs_inT 149 (by decide +kernel) rfl), by decide +kernel, by decide +kernel, by decide +kernel⟩
theorem mvX12_book : Cond.instanceMethod mX12_book.1 ∈ hs_T ∧ Cond.selects mX12_book.1.cls mX12_book.1 mX12_book.1 ∈ hs_T := ⟨(hs_inT 1520 (by decide +kernel) rfl), hs_inT 1521 (by decide +kernel) rfl⟩
theorem mfX11_level : hs_MF mX11_level 1 := ⟨(hs_inT 856 (by decide +kernel) rfl), (hs_inT 133 (by decide +kernel) rfl), by decide +kernel, by decide +kernel, by decide +kernel⟩
theorem mvX11_level : Cond.instanceMethod mX11_level.1 ∈ hs_T ∧ Cond.selects mX11_level.1.cls mX11_level.1 mX11_level.1 ∈ hs_T := ⟨(hs_inT 854 (by decide +kernel) rfl), hs_inT 855 (by decide +kernel) rfl⟩
theorem mfX12_level : hs_MF mX12_level 1 := ⟨(hs_inT 1553 (by decide +kernel) rfl), (hs_inT 149 (by decide +kernel) rfl), by decide +kernel, by decide +kernel, by decide +kernel⟩
theorem mvX12_level : Cond.instanceMethod mX12_level.1 ∈ hs_T ∧ Cond.selects mX12_level.1.cls mX12_level.1 mX12_level.1 ∈ hs_T := ⟨(hs_inT 1551 (by decide +kernel) rfl), hs_inT 1552 (by decide +kernel) rfl⟩
theorem mfX11_load : hs_MF mX11_load 1 := ⟨(hs_inT 864 (by decide +kernel) rfl), (hs_inT 133 (by decide +kernel) rfl), by decide +kernel, by decide +kernel, by decide +kernel⟩
theorem mvX11_load : Cond.instanceMethod mX11_load.1 ∈ hs_T ∧ Cond.selects mX11_load.1.cls mX11_load.1 mX11_load.1 ∈ hs_T := ⟨(hs_inT 862 (by decide +kernel) rfl), hs_inT 863 (by decide +kernel) rfl⟩
theorem mfX12_load : hs_MF mX12_load 1 := ⟨(hs_inT 1561 (by decide +kernel) rfl), (hs_inT 149 (by decide +kernel) rfl), by decide +kernel, by decide +kernel, by decide +kernel⟩
theorem mvX12_load : Cond.instanceMethod mX12_load.1 ∈ hs_T ∧ Cond.selects mX12_load.1.cls mX12_load.1 mX12_load.1 ∈ hs_T := ⟨(hs_inT 1559 (by decide +kernel) rfl), hs_inT 1560 (by decide +kernel) rfl⟩
theorem mfX11_point : hs_MF mX11_point 2 := ⟨(hs_inT 885 (by decide +kernel) rfl), (hs_inT 133 (by decide +kernel) rfl), by decide +kernel, by decide +kernel, by decide +kernel⟩
theorem mvX11_point : Cond.instanceMethod mX11_point.1 ∈ hs_T ∧ Cond.selects mX11_point.1.cls mX11_point.1 mX11_point.1 ∈ hs_T := ⟨(hs_inT 883 (by decide +kernel) rfl), hs_inT 884 (by decide +kernel) rfl⟩
theorem mfX12_point : hs_MF mX12_point 2 := ⟨(hs_inT 1574 (by decide +kernel) rfl), (hs_inT 149 (by decide +kernel) rfl), by decide +kernel, by decide +kernel, by decide +kernel⟩
theorem mvX12_point : Cond.instanceMethod mX12_point.1 ∈ hs_T ∧ Cond.selects mX12_point.1.cls mX12_point.1 mX12_point.1 ∈ hs_T := ⟨(hs_inT 1572 (by decide +kernel) rfl), hs_inT 1573 (by decide +kernel) rfl⟩
theorem mfX11_stands : hs_MF mX11_stands 0 := ⟨(hs_inT 905 (by decide +kernel) rfl), (hs_inT 133 (by decide +kernel) rfl), by decide +kernel, by decide +kernel, by decide +kernel⟩
theorem mvX11_stands : Cond.instanceMethod mX11_stands.1 ∈ hs_T ∧ Cond.selects mX11_stands.1.cls mX11_stands.1 mX11_stands.1 ∈ hs_T := ⟨(hs_inT 903 (by decide +kernel) rfl), hs_inT 904 (by decide +kernel) rfl⟩
theorem mfX12_stands : hs_MF mX12_stands 0 := ⟨(hs_inT 1582 (by decide +kernel) rfl), (hs_inT 149 (by decide +kernel) rfl), by decide +kernel, by decide +kernel, by decide +kernel⟩
theorem mvX12_stands : Cond.instanceMethod mX12_stands.1 ∈ hs_T ∧ Cond.selects mX12_stands.1.cls mX12_stands.1 mX12_stands.1 ∈ hs_T := ⟨(hs_inT 1580 (by decide +kernel) rfl), hs_inT 1581 (by decide +kernel) rfl⟩
theorem mfX11_tips : hs_MF mX11_tips 1 := ⟨(hs_inT 936 (by decide +kernel) rfl), (hs_inT 133 (by decide +kernel) rfl), by decide +kernel, by decide +kernel, by decide +kernel⟩
theorem mvX11_tips : Cond.instanceMethod mX11_tips.1 ∈ hs_T ∧ Cond.selects mX11_tips.1.cls mX11_tips.1 mX11_tips.1 ∈ hs_T := ⟨(hs_inT 934 (by decide +kernel) rfl), hs_inT 935 (by decide +kernel) rfl⟩
theorem mfX12_tips : hs_MF mX12_tips 1 := ⟨(hs_inT 1610 (by decide +kernel) rfl), (hs_inT 149 (by decide +kernel) rfl), by decide +kernel, by decide +kernel, by decide +kernel⟩
theorem mvX12_tips : Cond.instanceMethod mX12_tips.1 ∈ hs_T ∧ Cond.selects mX12_tips.1.cls mX12_tips.1 mX12_tips.1 ∈ hs_T := ⟨(hs_inT 1608 (by decide +kernel) rfl), hs_inT 1609 (by decide +kernel) rfl⟩
theorem mfX11_over : hs_MF mX11_over 0 := ⟨(hs_inT 946 (by decide +kernel) rfl), (hs_inT 133 (by decide +kernel) rfl), by decide +kernel, by decide +kernel, by decide +kernel⟩
theorem mvX11_over : Cond.instanceMethod mX11_over.1 ∈ hs_T ∧ Cond.selects mX11_over.1.cls mX11_over.1 mX11_over.1 ∈ hs_T := ⟨(hs_inT 944 (by decide +kernel) rfl), hs_inT 945 (by decide +kernel) rfl⟩
theorem mfX12_over : hs_MF mX12_over 0 := ⟨(hs_inT 1614 (by decide +kernel) rfl), (hs_inT 149 (by decide +kernel) rfl), by decide +kernel, by decide +kernel, by decide +kernel⟩
theorem mvX12_over : Cond.instanceMethod mX12_over.1 ∈ hs_T ∧ Cond.selects mX12_over.1.cls mX12_over.1 mX12_over.1 ∈ hs_T := ⟨(hs_inT 1612 (by decide +kernel) rfl), hs_inT 1613 (by decide +kernel) rfl⟩
theorem mfX11_lay : hs_MF mX11_lay 3 := ⟨(hs_inT 955 (by decide +kernel) rfl), (hs_inT 133 (by decide +kernel) rfl), by decide +kernel, by decide +kernel, by decide +kernel⟩
theorem mvX11_lay : Cond.instanceMethod mX11_lay.1 ∈ hs_T ∧ Cond.selects mX11_lay.1.cls mX11_lay.1 mX11_lay.1 ∈ hs_T := ⟨(hs_inT 953 (by decide +kernel) rfl), hs_inT 954 (by decide +kernel) rfl⟩
theorem mfX12_lay : hs_MF mX12_lay 3 := ⟨(hs_inT 1622 (by decide +kernel) rfl), (hs_inT 149 (by decide +kernel) rfl), by decide +kernel, by decide +kernel, by decide +kernel⟩
theorem mvX12_lay : Cond.instanceMethod mX12_lay.1 ∈ hs_T ∧ Cond.selects mX12_lay.1.cls mX12_lay.1 mX12_lay.1 ∈ hs_T := ⟨(hs_inT 1620 (by decide +kernel) rfl), hs_inT 1621 (by decide +kernel) rfl⟩
theorem mfX11_lift : hs_MF mX11_lift 0 := ⟨(hs_inT 970 (by decide +kernel) rfl), (hs_inT 133 (by decide +kernel) rfl), by decide +kernel, by decide +kernel, by decide +kernel⟩
theorem mvX11_lift : Cond.instanceMethod mX11_lift.1 ∈ hs_T ∧ Cond.selects mX11_lift.1.cls mX11_lift.1 mX11_lift.1 ∈ hs_T := ⟨(hs_inT 968 (by decide +kernel) rfl), hs_inT 969 (by decide +kernel) rfl⟩
theorem mfX12_lift : hs_MF mX12_lift 0 := ⟨(hs_inT 1630 (by decide +kernel) rfl), (hs_inT 149 (by decide +kernel) rfl), by decide +kernel, by decide +kernel, by decide +kernel⟩
theorem mvX12_lift : Cond.instanceMethod mX12_lift.1 ∈ hs_T ∧ Cond.selects mX12_lift.1.cls mX12_lift.1 mX12_lift.1 ∈ hs_T := ⟨(hs_inT 1628 (by decide +kernel) rfl), hs_inT 1629 (by decide +kernel) rfl⟩
theorem mfX11_move : hs_MF mX11_move 2 := ⟨(hs_inT 978 (by decide +kernel) rfl), (hs_inT 133 (by decide +kernel) rfl), by decide +kernel, by decide +kernel, by decide +kernel⟩
theorem mvX11_move : Cond.instanceMethod mX11_move.1 ∈ hs_T ∧ Cond.selects mX11_move.1.cls mX11_move.1 mX11_move.1 ∈ hs_T := ⟨(hs_inT 976 (by decide +kernel) rfl), hs_inT 977 (by decide +kernel) rfl⟩
theorem mfX12_move : hs_MF mX12_move 2 := ⟨(hs_inT 1634 (by decide +kernel) rfl), (hs_inT 149 (by decide +kernel) rfl), by decide +kernel, by decide +kernel, by decide +kernel⟩
theorem mvX12_move : Cond.instanceMethod mX12_move.1 ∈ hs_T ∧ Cond.selects mX12_move.1.cls mX12_move.1 mX12_move.1 ∈ hs_T := ⟨(hs_inT 1632 (by decide +kernel) rfl), hs_inT 1633 (by decide +kernel) rfl⟩
theorem mfX11_undo : hs_MF mX11_undo 0 := ⟨(hs_inT 986 (by decide +kernel) rfl), (hs_inT 133 (by decide +kernel) rfl), by decide +kernel, by decide +kernel, by decide +kernel⟩
theorem mvX11_undo : Cond.instanceMethod mX11_undo.1 ∈ hs_T ∧ Cond.selects mX11_undo.1.cls mX11_undo.1 mX11_undo.1 ∈ hs_T := ⟨(hs_inT 984 (by decide +kernel) rfl), hs_inT 985 (by decide +kernel) rfl⟩
theorem mfX12_undo : hs_MF mX12_undo 0 := ⟨(hs_inT 1642 (by decide +kernel) rfl), (hs_inT 149 (by decide +kernel) rfl), by decide +kernel, by decide +kernel, by decide +kernel⟩
theorem mvX12_undo : Cond.instanceMethod mX12_undo.1 ∈ hs_T ∧ Cond.selects mX12_undo.1.cls mX12_undo.1 mX12_undo.1 ∈ hs_T := ⟨(hs_inT 1640 (by decide +kernel) rfl), hs_inT 1641 (by decide +kernel) rfl⟩
theorem mfX11_bears : hs_MF mX11_bears 2 := ⟨(hs_inT 997 (by decide +kernel) rfl), (hs_inT 133 (by decide +kernel) rfl), by decide +kernel, by decide +kernel, by decide +kernel⟩
theorem mvX11_bears : Cond.instanceMethod mX11_bears.1 ∈ hs_T ∧ Cond.selects mX11_bears.1.cls mX11_bears.1 mX11_bears.1 ∈ hs_T := ⟨(hs_inT 995 (by decide +kernel) rfl), hs_inT 996 (by decide +kernel) rfl⟩
theorem mfX12_bears : hs_MF mX12_bears 2 := ⟨(hs_inT 1646 (by decide +kernel) rfl), (hs_inT 149 (by decide +kernel) rfl), by decide +kernel, by decide +kernel, by decide +kernel⟩
theorem mvX12_bears : Cond.instanceMethod mX12_bears.1 ∈ hs_T ∧ Cond.selects mX12_bears.1.cls mX12_bears.1 mX12_bears.1 ∈ hs_T := ⟨(hs_inT 1644 (by decide +kernel) rfl), hs_inT 1645 (by decide +kernel) rfl⟩
theorem mfX11_holds : hs_MF mX11_holds 2 := ⟨(hs_inT 1018 (by decide +kernel) rfl), (hs_inT 133 (by decide +kernel) rfl), by decide +kernel, by decide +kernel, by decide +kernel⟩
theorem mvX11_holds : Cond.instanceMethod mX11_holds.1 ∈ hs_T ∧ Cond.selects mX11_holds.1.cls mX11_holds.1 mX11_holds.1 ∈ hs_T := ⟨(hs_inT 1016 (by decide +kernel) rfl), hs_inT 1017 (by decide +kernel) rfl⟩
theorem mfX12_holds : hs_MF mX12_holds 2 := ⟨(hs_inT 1654 (by decide +kernel) rfl), (hs_inT 149 (by decide +kernel) rfl), by decide +kernel, by decide +kernel, by decide +kernel⟩
theorem mvX12_holds : Cond.instanceMethod mX12_holds.1 ∈ hs_T ∧ Cond.selects mX12_holds.1.cls mX12_holds.1 mX12_holds.1 ∈ hs_T := ⟨(hs_inT 1652 (by decide +kernel) rfl), hs_inT 1653 (by decide +kernel) rfl⟩
theorem mfX11_pushed : hs_MF mX11_pushed 1 := ⟨(hs_inT 1022 (by decide +kernel) rfl), (hs_inT 133 (by decide +kernel) rfl), by decide +kernel, by decide +kernel, by decide +kernel⟩
theorem mvX11_pushed : Cond.instanceMethod mX11_pushed.1 ∈ hs_T ∧ Cond.selects mX11_pushed.1.cls mX11_pushed.1 mX11_pushed.1 ∈ hs_T := ⟨(hs_inT 1020 (by decide +kernel) rfl), hs_inT 1021 (by decide +kernel) rfl⟩
theorem mfX12_pushed : hs_MF mX12_pushed 1 := ⟨(hs_inT 1658 (by decide +kernel) rfl), (hs_inT 149 (by decide +kernel) rfl), by decide +kernel, by decide +kernel, by decide +kernel⟩
theorem mvX12_pushed : Cond.instanceMethod mX12_pushed.1 ∈ hs_T ∧ Cond.selects mX12_pushed.1.cls mX12_pushed.1 mX12_pushed.1 ∈ hs_T := ⟨(hs_inT 1656 (by decide +kernel) rfl), hs_inT 1657 (by decide +kernel) rfl⟩
theorem mfX11_takings : hs_MF mX11_takings 0 := ⟨(hs_inT 1031 (by decide +kernel) rfl), (hs_inT 133 (by decide +kernel) rfl), by decide +kernel, by decide +kernel, by decide +kernel⟩
theorem mvX11_takings : Cond.instanceMethod mX11_takings.1 ∈ hs_T ∧ Cond.selects mX11_takings.1.cls mX11_takings.1 mX11_takings.1 ∈ hs_T := ⟨(hs_inT 1029 (by decide +kernel) rfl), hs_inT 1030 (by decide +kernel) rfl⟩
theorem mfX12_takings : hs_MF mX12_takings 0 := ⟨(hs_inT 1666 (by decide +kernel) rfl), (hs_inT 149 (by decide +kernel) rfl), by decide +kernel, by decide +kernel, by decide +kernel⟩
theorem mvX12_takings : Cond.instanceMethod mX12_takings.1 ∈ hs_T ∧ Cond.selects mX12_takings.1.cls mX12_takings.1 mX12_takings.1 ∈ hs_T := ⟨(hs_inT 1664 (by decide +kernel) rfl), hs_inT 1665 (by decide +kernel) rfl⟩
theorem mfX11_slides : hs_MF mX11_slides 2 := ⟨(hs_inT 1043 (by decide +kernel) rfl), (hs_inT 133 (by decide +kernel) rfl), by decide +kernel, by decide +kernel, by decide +kernel⟩
theorem mvX11_slides : Cond.instanceMethod mX11_slides.1 ∈ hs_T ∧ Cond.selects mX11_slides.1.cls mX11_slides.1 mX11_slides.1 ∈ hs_T := ⟨(hs_inT 1041 (by decide +kernel) rfl), hs_inT 1042 (by decide +kernel) rfl⟩
theorem mfX12_slides : hs_MF mX12_slides 2 := ⟨(hs_inT 1674 (by decide +kernel) rfl), (hs_inT 149 (by decide +kernel) rfl), by decide +kernel, by decide +kernel, by decide +kernel⟩
theorem mvX12_slides : Cond.instanceMethod mX12_slides.1 ∈ hs_T ∧ Cond.selects mX12_slides.1.cls mX12_slides.1 mX12_slides.1 ∈ hs_T := ⟨(hs_inT 1672 (by decide +kernel) rfl), hs_inT 1673 (by decide +kernel) rfl⟩
theorem mfX11_out : hs_MF mX11_out 1 := ⟨(hs_inT 1047 (by decide +kernel) rfl), (hs_inT 133 (by decide +kernel) rfl), by decide +kernel, by decide +kernel, by decide +kernel⟩
theorem mvX11_out : Cond.instanceMethod mX11_out.1 ∈ hs_T ∧ Cond.selects mX11_out.1.cls mX11_out.1 mX11_out.1 ∈ hs_T := ⟨(hs_inT 1045 (by decide +kernel) rfl), hs_inT 1046 (by decide +kernel) rfl⟩
theorem mfX12_out : hs_MF mX12_out 1 := ⟨(hs_inT 1678 (by decide +kernel) rfl), (hs_inT 149 (by decide +kernel) rfl), by decide +kernel, by decide +kernel, by decide +kernel⟩
theorem mvX12_out : Cond.instanceMethod mX12_out.1 ∈ hs_T ∧ Cond.selects mX12_out.1.cls mX12_out.1 mX12_out.1 ∈ hs_T := ⟨(hs_inT 1676 (by decide +kernel) rfl), hs_inT 1677 (by decide +kernel) rfl⟩
theorem mfX11_reach : hs_MF mX11_reach 2 := ⟨(hs_inT 1051 (by decide +kernel) rfl), (hs_inT 133 (by decide +kernel) rfl), by decide +kernel, by decide +kernel, by decide +kernel⟩
theorem mvX11_reach : Cond.instanceMethod mX11_reach.1 ∈ hs_T ∧ Cond.selects mX11_reach.1.cls mX11_reach.1 mX11_reach.1 ∈ hs_T := ⟨(hs_inT 1049 (by decide +kernel) rfl), hs_inT 1050 (by decide +kernel) rfl⟩
theorem mfX12_reach : hs_MF mX12_reach 2 := ⟨(hs_inT 1682 (by decide +kernel) rfl), (hs_inT 149 (by decide +kernel) rfl), by decide +kernel, by decide +kernel, by decide +kernel⟩
theorem mvX12_reach : Cond.instanceMethod mX12_reach.1 ∈ hs_T ∧ Cond.selects mX12_reach.1.cls mX12_reach.1 mX12_reach.1 ∈ hs_T := ⟨(hs_inT 1680 (by decide +kernel) rfl), hs_inT 1681 (by decide +kernel) rfl⟩
theorem mfX11_bestOrder : hs_MF mX11_bestOrder 1 := ⟨(hs_inT 1067 (by decide +kernel) rfl), (hs_inT 133 (by decide +kernel) rfl), by decide +kernel, by decide +kernel, by decide +kernel⟩
theorem mvX11_bestOrder : Cond.instanceMethod mX11_bestOrder.1 ∈ hs_T ∧ Cond.selects mX11_bestOrder.1.cls mX11_bestOrder.1 mX11_bestOrder.1 ∈ hs_T := ⟨(hs_inT 1065 (by decide +kernel) rfl), hs_inT 1066 (by decide +kernel) rfl⟩
theorem mfX12_bestOrder : hs_MF mX12_bestOrder 1 := ⟨(hs_inT 1700 (by decide +kernel) rfl), (hs_inT 149 (by decide +kernel) rfl), by decide +kernel, by decide +kernel, by decide +kernel⟩
theorem mvX12_bestOrder : Cond.instanceMethod mX12_bestOrder.1 ∈ hs_T ∧ Cond.selects mX12_bestOrder.1.cls mX12_bestOrder.1 mX12_bestOrder.1 ∈ hs_T := ⟨(hs_inT 1698 (by decide +kernel) rfl), hs_inT 1699 (by decide +kernel) rfl⟩
theorem mfX11_alike : hs_MF mX11_alike 2 := ⟨(hs_inT 1087 (by decide +kernel) rfl), (hs_inT 133 (by decide +kernel) rfl), by decide +kernel, by decide +kernel, by decide +kernel⟩
theorem mvX11_alike : Cond.instanceMethod mX11_alike.1 ∈ hs_T ∧ Cond.selects mX11_alike.1.cls mX11_alike.1 mX11_alike.1 ∈ hs_T := ⟨(hs_inT 1085 (by decide +kernel) rfl), hs_inT 1086 (by decide +kernel) rfl⟩
theorem mfX12_alike : hs_MF mX12_alike 2 := ⟨(hs_inT 1711 (by decide +kernel) rfl), (hs_inT 149 (by decide +kernel) rfl), by decide +kernel, by decide +kernel, by decide +kernel⟩
theorem mvX12_alike : Cond.instanceMethod mX12_alike.1 ∈ hs_T ∧ Cond.selects mX12_alike.1.cls mX12_alike.1 mX12_alike.1 ∈ hs_T := ⟨(hs_inT 1709 (by decide +kernel) rfl), hs_inT 1710 (by decide +kernel) rfl⟩
theorem mfX11_needed : hs_MF mX11_needed 2 := ⟨(hs_inT 1092 (by decide +kernel) rfl), (hs_inT 133 (by decide +kernel) rfl), by decide +kernel, by decide +kernel, by decide +kernel⟩
theorem mvX11_needed : Cond.instanceMethod mX11_needed.1 ∈ hs_T ∧ Cond.selects mX11_needed.1.cls mX11_needed.1 mX11_needed.1 ∈ hs_T := ⟨(hs_inT 1090 (by decide +kernel) rfl), hs_inT 1091 (by decide +kernel) rfl⟩
theorem mfX12_needed : hs_MF mX12_needed 2 := ⟨(hs_inT 1719 (by decide +kernel) rfl), (hs_inT 149 (by decide +kernel) rfl), by decide +kernel, by decide +kernel, by decide +kernel⟩
theorem mvX12_needed : Cond.instanceMethod mX12_needed.1 ∈ hs_T ∧ Cond.selects mX12_needed.1.cls mX12_needed.1 mX12_needed.1 ∈ hs_T := ⟨(hs_inT 1717 (by decide +kernel) rfl), hs_inT 1718 (by decide +kernel) rfl⟩
theorem mfX11_see : hs_MF mX11_see 1 := ⟨(hs_inT 1096 (by decide +kernel) rfl), (hs_inT 133 (by decide +kernel) rfl), by decide +kernel, by decide +kernel, by decide +kernel⟩
theorem mvX11_see : Cond.instanceMethod mX11_see.1 ∈ hs_T ∧ Cond.selects mX11_see.1.cls mX11_see.1 mX11_see.1 ∈ hs_T := ⟨(hs_inT 1094 (by decide +kernel) rfl), hs_inT 1095 (by decide +kernel) rfl⟩
theorem mfX12_see : hs_MF mX12_see 1 := ⟨(hs_inT 1723 (by decide +kernel) rfl), (hs_inT 149 (by decide +kernel) rfl), by decide +kernel, by decide +kernel, by decide +kernel⟩
theorem mvX12_see : Cond.instanceMethod mX12_see.1 ∈ hs_T ∧ Cond.selects mX12_see.1.cls mX12_see.1 mX12_see.1 ∈ hs_T := ⟨(hs_inT 1721 (by decide +kernel) rfl), hs_inT 1722 (by decide +kernel) rfl⟩
theorem mfX11_forget : hs_MF mX11_forget 0 := ⟨(hs_inT 1113 (by decide +kernel) rfl), (hs_inT 133 (by decide +kernel) rfl), by decide +kernel, by decide +kernel, by decide +kernel⟩
theorem mvX11_forget : Cond.instanceMethod mX11_forget.1 ∈ hs_T ∧ Cond.selects mX11_forget.1.cls mX11_forget.1 mX11_forget.1 ∈ hs_T := ⟨(hs_inT 1111 (by decide +kernel) rfl), hs_inT 1112 (by decide +kernel) rfl⟩
theorem mfX12_forget : hs_MF mX12_forget 0 := ⟨(hs_inT 1727 (by decide +kernel) rfl), (hs_inT 149 (by decide +kernel) rfl), by decide +kernel, by decide +kernel, by decide +kernel⟩
theorem mvX12_forget : Cond.instanceMethod mX12_forget.1 ∈ hs_T ∧ Cond.selects mX12_forget.1.cls mX12_forget.1 mX12_forget.1 ∈ hs_T := ⟨(hs_inT 1725 (by decide +kernel) rfl), hs_inT 1726 (by decide +kernel) rfl⟩
theorem mfX11_fits : hs_MF mX11_fits 2 := ⟨(hs_inT 1117 (by decide +kernel) rfl), (hs_inT 133 (by decide +kernel) rfl), by decide +kernel, by decide +kernel, by decide +kernel⟩
theorem mvX11_fits : Cond.instanceMethod mX11_fits.1 ∈ hs_T ∧ Cond.selects mX11_fits.1.cls mX11_fits.1 mX11_fits.1 ∈ hs_T := ⟨(hs_inT 1115 (by decide +kernel) rfl), hs_inT 1116 (by decide +kernel) rfl⟩
theorem mfX12_fits : hs_MF mX12_fits 2 := ⟨(hs_inT 1731 (by decide +kernel) rfl), (hs_inT 149 (by decide +kernel) rfl), by decide +kernel, by decide +kernel, by decide +kernel⟩
theorem mvX12_fits : Cond.instanceMethod mX12_fits.1 ∈ hs_T ∧ Cond.selects mX12_fits.1.cls mX12_fits.1 mX12_fits.1 ∈ hs_T := ⟨(hs_inT 1729 (by decide +kernel) rfl), hs_inT 1730 (by decide +kernel) rfl⟩
theorem mfX11_span : hs_MF mX11_span 3 := ⟨(hs_inT 1155 (by decide +kernel) rfl), (hs_inT 133 (by decide +kernel) rfl), by decide +kernel, by decide +kernel, by decide +kernel⟩
theorem mvX11_span : Cond.instanceMethod mX11_span.1 ∈ hs_T ∧ Cond.selects mX11_span.1.cls mX11_span.1 mX11_span.1 ∈ hs_T := ⟨(hs_inT 1153 (by decide +kernel) rfl), hs_inT 1154 (by decide +kernel) rfl⟩
theorem mfX12_span : hs_MF mX12_span 3 := ⟨(hs_inT 1743 (by decide +kernel) rfl), (hs_inT 149 (by decide +kernel) rfl), by decide +kernel, by decide +kernel, by decide +kernel⟩
theorem mvX12_span : Cond.instanceMethod mX12_span.1 ∈ hs_T ∧ Cond.selects mX12_span.1.cls mX12_span.1 mX12_span.1 ∈ hs_T := ⟨(hs_inT 1741 (by decide +kernel) rfl), hs_inT 1742 (by decide +kernel) rfl⟩
theorem mfX11_hold : hs_MF mX11_hold 1 := ⟨(hs_inT 1159 (by decide +kernel) rfl), (hs_inT 133 (by decide +kernel) rfl), by decide +kernel, by decide +kernel, by decide +kernel⟩
theorem mvX11_hold : Cond.instanceMethod mX11_hold.1 ∈ hs_T ∧ Cond.selects mX11_hold.1.cls mX11_hold.1 mX11_hold.1 ∈ hs_T := ⟨(hs_inT 1157 (by decide +kernel) rfl), hs_inT 1158 (by decide +kernel) rfl⟩
theorem mfX12_hold : hs_MF mX12_hold 1 := ⟨(hs_inT 1747 (by decide +kernel) rfl), (hs_inT 149 (by decide +kernel) rfl), by decide +kernel, by decide +kernel, by decide +kernel⟩
theorem mvX12_hold : Cond.instanceMethod mX12_hold.1 ∈ hs_T ∧ Cond.selects mX12_hold.1.cls mX12_hold.1 mX12_hold.1 ∈ hs_T := ⟨(hs_inT 1745 (by decide +kernel) rfl), hs_inT 1746 (by decide +kernel) rfl⟩
theorem mfX11_restore : hs_MF mX11_restore 1 := ⟨(hs_inT 1168 (by decide +kernel) rfl), (hs_inT 133 (by decide +kernel) rfl), by decide +kernel, by decide +kernel, by decide +kernel⟩
theorem mvX11_restore : Cond.instanceMethod mX11_restore.1 ∈ hs_T ∧ Cond.selects mX11_restore.1.cls mX11_restore.1 mX11_restore.1 ∈ hs_T := ⟨(hs_inT 1166 (by decide +kernel) rfl), hs_inT 1167 (by decide +kernel) rfl⟩
theorem mfX12_restore : hs_MF mX12_restore 1 := ⟨(hs_inT 1751 (by decide +kernel) rfl), (hs_inT 149 (by decide +kernel) rfl), by decide +kernel, by decide +kernel, by decide +kernel⟩
theorem mvX12_restore : Cond.instanceMethod mX12_restore.1 ∈ hs_T ∧ Cond.selects mX12_restore.1.cls mX12_restore.1 mX12_restore.1 ∈ hs_T := ⟨(hs_inT 1749 (by decide +kernel) rfl), hs_inT 1750 (by decide +kernel) rfl⟩
theorem mfX11_count : hs_MF mX11_count 1 := ⟨(hs_inT 1176 (by decide +kernel) rfl), (hs_inT 133 (by decide +kernel) rfl), by decide +kernel, by decide +kernel, by decide +kernel⟩
theorem mvX11_count : Cond.instanceMethod mX11_count.1 ∈ hs_T ∧ Cond.selects mX11_count.1.cls mX11_count.1 mX11_count.1 ∈ hs_T := ⟨(hs_inT 1174 (by decide +kernel) rfl), hs_inT 1175 (by decide +kernel) rfl⟩
theorem mfX12_count : hs_MF mX12_count 1 := ⟨(hs_inT 1755 (by decide +kernel) rfl), (hs_inT 149 (by decide +kernel) rfl), by decide +kernel, by decide +kernel, by decide +kernel⟩
theorem mvX12_count : Cond.instanceMethod mX12_count.1 ∈ hs_T ∧ Cond.selects mX12_count.1.cls mX12_count.1 mX12_count.1 ∈ hs_T := ⟨(hs_inT 1753 (by decide +kernel) rfl), hs_inT 1754 (by decide +kernel) rfl⟩
theorem ll_9 : Cond.methodLink R_law 9 mX11_init.1 ∈ hs_T := (hs_inT 154 (by decide +kernel) rfl)
theorem ll_12 : Cond.methodLink R_law 12 mX12_init.1 ∈ hs_T := (hs_inT 1187 (by decide +kernel) rfl)
theorem ll_13 : Cond.methodLink R_law 13 mX11_feed.1 ∈ hs_T := (hs_inT 610 (by decide +kernel) rfl)
theorem ll_17 : Cond.methodLink R_law 17 mX12_feed.1 ∈ hs_T := (hs_inT 1405 (by decide +kernel) rfl)
theorem ll_18 : Cond.methodLink R_law 18 mX11_back.1 ∈ hs_T := (hs_inT 618 (by decide +kernel) rfl)
theorem ll_22 : Cond.methodLink R_law 22 mX12_back.1 ∈ hs_T := (hs_inT 1413 (by decide +kernel) rfl)
theorem ll_23 : Cond.methodLink R_law 23 mX11_read.1 ∈ hs_T := (hs_inT 622 (by decide +kernel) rfl)
theorem ll_27 : Cond.methodLink R_law 27 mX12_read.1 ∈ hs_T := (hs_inT 1417 (by decide +kernel) rfl)
theorem ll_28 : Cond.methodLink R_law 28 mX11_place.1 ∈ hs_T := (hs_inT 823 (by decide +kernel) rfl)
theorem ll_31 : Cond.methodLink R_law 31 mX12_place.1 ∈ hs_T := (hs_inT 1515 (by decide +kernel) rfl)
theorem ll_32 : Cond.methodLink R_law 32 mX11_book.1 ∈ hs_T := (hs_inT 827 (by decide +kernel) rfl)
theorem ll_36 : Cond.methodLink R_law 36 mX12_book.1 ∈ hs_T := (hs_inT 1519 (by decide +kernel) rfl)
theorem ll_37 : Cond.methodLink R_law 37 mX11_level.1 ∈ hs_T := (hs_inT 853 (by decide +kernel) rfl)
theorem ll_40 : Cond.methodLink R_law 40 mX12_level.1 ∈ hs_T := (hs_inT 1550 (by decide +kernel) rfl)
theorem ll_41 : Cond.methodLink R_law 41 mX11_load.1 ∈ hs_T := (hs_inT 861 (by decide +kernel) rfl)
theorem ll_44 : Cond.methodLink R_law 44 mX12_load.1 ∈ hs_T := (hs_inT 1558 (by decide +kernel) rfl)
theorem ll_45 : Cond.methodLink R_law 45 mX11_point.1 ∈ hs_T := (hs_inT 882 (by decide +kernel) rfl)
theorem ll_49 : Cond.methodLink R_law 49 mX12_point.1 ∈ hs_T := (hs_inT 1571 (by decide +kernel) rfl)
theorem ll_50 : Cond.methodLink R_law 50 mX11_stands.1 ∈ hs_T := (hs_inT 902 (by decide +kernel) rfl)
theorem ll_54 : Cond.methodLink R_law 54 mX12_stands.1 ∈ hs_T := (hs_inT 1579 (by decide +kernel) rfl)
theorem ll_55 : Cond.methodLink R_law 55 mX11_tips.1 ∈ hs_T := (hs_inT 933 (by decide +kernel) rfl)
theorem ll_58 : Cond.methodLink R_law 58 mX12_tips.1 ∈ hs_T := (hs_inT 1607 (by decide +kernel) rfl)
theorem ll_59 : Cond.methodLink R_law 59 mX11_over.1 ∈ hs_T := (hs_inT 943 (by decide +kernel) rfl)
theorem ll_62 : Cond.methodLink R_law 62 mX12_over.1 ∈ hs_T := (hs_inT 1611 (by decide +kernel) rfl)
theorem ll_63 : Cond.methodLink R_law 63 mX11_lay.1 ∈ hs_T := (hs_inT 952 (by decide +kernel) rfl)
theorem ll_67 : Cond.methodLink R_law 67 mX12_lay.1 ∈ hs_T := (hs_inT 1619 (by decide +kernel) rfl)
theorem ll_68 : Cond.methodLink R_law 68 mX11_lift.1 ∈ hs_T := (hs_inT 967 (by decide +kernel) rfl)
theorem ll_71 : Cond.methodLink R_law 71 mX12_lift.1 ∈ hs_T := (hs_inT 1627 (by decide +kernel) rfl)
theorem ll_72 : Cond.methodLink R_law 72 mX11_move.1 ∈ hs_T := (hs_inT 975 (by decide +kernel) rfl)
theorem ll_76 : Cond.methodLink R_law 76 mX12_move.1 ∈ hs_T := (hs_inT 1631 (by decide +kernel) rfl)
theorem ll_77 : Cond.methodLink R_law 77 mX11_undo.1 ∈ hs_T := (hs_inT 983 (by decide +kernel) rfl)
theorem ll_80 : Cond.methodLink R_law 80 mX12_undo.1 ∈ hs_T := (hs_inT 1639 (by decide +kernel) rfl)
theorem ll_81 : Cond.methodLink R_law 81 mX11_bears.1 ∈ hs_T := (hs_inT 994 (by decide +kernel) rfl)
theorem ll_84 : Cond.methodLink R_law 84 mX12_bears.1 ∈ hs_T := (hs_inT 1643 (by decide +kernel) rfl)
theorem ll_85 : Cond.methodLink R_law 85 mX11_holds.1 ∈ hs_T := (hs_inT 1015 (by decide +kernel) rfl)
theorem ll_88 : Cond.methodLink R_law 88 mX12_holds.1 ∈ hs_T := (hs_inT 1651 (by decide +kernel) rfl)
theorem ll_89 : Cond.methodLink R_law 89 mX11_pushed.1 ∈ hs_T := (hs_inT 1019 (by decide +kernel) rfl)
theorem ll_92 : Cond.methodLink R_law 92 mX12_pushed.1 ∈ hs_T := (hs_inT 1655 (by decide +kernel) rfl)
theorem ll_93 : Cond.methodLink R_law 93 mX11_takings.1 ∈ hs_T := (hs_inT 1028 (by decide +kernel) rfl)
theorem ll_96 : Cond.methodLink R_law 96 mX12_takings.1 ∈ hs_T := (hs_inT 1663 (by decide +kernel) rfl)
theorem ll_97 : Cond.methodLink R_law 97 mX11_slides.1 ∈ hs_T := (hs_inT 1040 (by decide +kernel) rfl)
theorem ll_101 : Cond.methodLink R_law 101 mX12_slides.1 ∈ hs_T := (hs_inT 1671 (by decide +kernel) rfl)
theorem ll_102 : Cond.methodLink R_law 102 mX11_out.1 ∈ hs_T := (hs_inT 1044 (by decide +kernel) rfl)
theorem ll_105 : Cond.methodLink R_law 105 mX12_out.1 ∈ hs_T := (hs_inT 1675 (by decide +kernel) rfl)
theorem ll_106 : Cond.methodLink R_law 106 mX11_reach.1 ∈ hs_T := (hs_inT 1048 (by decide +kernel) rfl)
theorem ll_109 : Cond.methodLink R_law 109 mX12_reach.1 ∈ hs_T := (hs_inT 1679 (by decide +kernel) rfl)
theorem ll_110 : Cond.methodLink R_law 110 mX11_bestOrder.1 ∈ hs_T := (hs_inT 1064 (by decide +kernel) rfl)
theorem ll_113 : Cond.methodLink R_law 113 mX12_bestOrder.1 ∈ hs_T := (hs_inT 1697 (by decide +kernel) rfl)
theorem ll_114 : Cond.methodLink R_law 114 mX11_alike.1 ∈ hs_T := (hs_inT 1084 (by decide +kernel) rfl)
theorem ll_117 : Cond.methodLink R_law 117 mX12_alike.1 ∈ hs_T := (hs_inT 1708 (by decide +kernel) rfl)
theorem ll_118 : Cond.methodLink R_law 118 mX11_needed.1 ∈ hs_T := (hs_inT 1089 (by decide +kernel) rfl)
theorem ll_121 : Cond.methodLink R_law 121 mX12_needed.1 ∈ hs_T := (hs_inT 1716 (by decide +kernel) rfl)
theorem ll_122 : Cond.methodLink R_law 122 mX11_see.1 ∈ hs_T := (hs_inT 1093 (by decide +kernel) rfl)
theorem ll_126 : Cond.methodLink R_law 126 mX12_see.1 ∈ hs_T := (hs_inT 1720 (by decide +kernel) rfl)
theorem ll_127 : Cond.methodLink R_law 127 mX11_forget.1 ∈ hs_T := (hs_inT 1110 (by decide +kernel) rfl)
theorem ll_130 : Cond.methodLink R_law 130 mX12_forget.1 ∈ hs_T := (hs_inT 1724 (by decide +kernel) rfl)
theorem ll_131 : Cond.methodLink R_law 131 mX11_fits.1 ∈ hs_T := (hs_inT 1114 (by decide +kernel) rfl)
theorem ll_134 : Cond.methodLink R_law 134 mX12_fits.1 ∈ hs_T := (hs_inT 1728 (by decide +kernel) rfl)
theorem ll_135 : Cond.methodLink R_law 135 mX11_span.1 ∈ hs_T := (hs_inT 1152 (by decide +kernel) rfl)
theorem ll_139 : Cond.methodLink R_law 139 mX12_span.1 ∈ hs_T := (hs_inT 1740 (by decide +kernel) rfl)
theorem ll_140 : Cond.methodLink R_law 140 mX11_hold.1 ∈ hs_T := (hs_inT 1156 (by decide +kernel) rfl)
theorem ll_144 : Cond.methodLink R_law 144 mX12_hold.1 ∈ hs_T := (hs_inT 1744 (by decide +kernel) rfl)
theorem ll_145 : Cond.methodLink R_law 145 mX11_restore.1 ∈ hs_T := (hs_inT 1165 (by decide +kernel) rfl)
theorem ll_148 : Cond.methodLink R_law 148 mX12_restore.1 ∈ hs_T := (hs_inT 1748 (by decide +kernel) rfl)
theorem ll_149 : Cond.methodLink R_law 149 mX11_count.1 ∈ hs_T := (hs_inT 1173 (by decide +kernel) rfl)
theorem ll_152 : Cond.methodLink R_law 152 mX12_count.1 ∈ hs_T := (hs_inT 1752 (by decide +kernel) rfl)
def Ag_ {ρ : Type} (Rel : Sto → Sto → Prop) (f g : Nat → Sto → Option (ρ × Sto)) : Prop := ∀ (σc σm : Sto), Rel σc σm → ∃ (r : ρ) (σc' σm' : Sto), f 0  σc = some (r, σc') ∧ g 0  σm = some (r, σm') ∧ Rel σc' σm'
def Ag_B {ρ : Type} (Rel : Sto → Sto → Prop) (f g : Nat → Int32 → Sto → Option (ρ × Sto)) : Prop := ∀ (σc σm : Sto) (a0 : Int32), (a0 = 0 ∨ a0 = 1) → Rel σc σm → ∃ (r : ρ) (σc' σm' : Sto), f 0 a0 σc = some (r, σc') ∧ g 0 a0 σm = some (r, σm') ∧ Rel σc' σm'
def Ag_I {ρ : Type} (Rel : Sto → Sto → Prop) (f g : Nat → Int32 → Sto → Option (ρ × Sto)) : Prop := ∀ (σc σm : Sto) (a0 : Int32), Rel σc σm → ∃ (r : ρ) (σc' σm' : Sto), f 0 a0 σc = some (r, σc') ∧ g 0 a0 σm = some (r, σm') ∧ Rel σc' σm'
def Ag_IB {ρ : Type} (Rel : Sto → Sto → Prop) (f g : Nat → Int32 → Int32 → Sto → Option (ρ × Sto)) : Prop := ∀ (σc σm : Sto) (a0 : Int32) (a1 : Int32), (a1 = 0 ∨ a1 = 1) → Rel σc σm → ∃ (r : ρ) (σc' σm' : Sto), f 0 a0 a1 σc = some (r, σc') ∧ g 0 a0 a1 σm = some (r, σm') ∧ Rel σc' σm'
def Ag_II {ρ : Type} (Rel : Sto → Sto → Prop) (f g : Nat → Int32 → Int32 → Sto → Option (ρ × Sto)) : Prop := ∀ (σc σm : Sto) (a0 : Int32) (a1 : Int32), Rel σc σm → ∃ (r : ρ) (σc' σm' : Sto), f 0 a0 a1 σc = some (r, σc') ∧ g 0 a0 a1 σm = some (r, σm') ∧ Rel σc' σm'
def Ag_IIB {ρ : Type} (Rel : Sto → Sto → Prop) (f g : Nat → Int32 → Int32 → Int32 → Sto → Option (ρ × Sto)) : Prop := ∀ (σc σm : Sto) (a0 : Int32) (a1 : Int32) (a2 : Int32), (a2 = 0 ∨ a2 = 1) → Rel σc σm → ∃ (r : ρ) (σc' σm' : Sto), f 0 a0 a1 a2 σc = some (r, σc') ∧ g 0 a0 a1 a2 σm = some (r, σm') ∧ Rel σc' σm'
def Ag_III {ρ : Type} (Rel : Sto → Sto → Prop) (f g : Nat → Int32 → Int32 → Int32 → Sto → Option (ρ × Sto)) : Prop := ∀ (σc σm : Sto) (a0 : Int32) (a1 : Int32) (a2 : Int32), Rel σc σm → ∃ (r : ρ) (σc' σm' : Sto), f 0 a0 a1 a2 σc = some (r, σc') ∧ g 0 a0 a1 a2 σm = some (r, σm') ∧ Rel σc' σm'
def Ag_IIIII {ρ : Type} (Rel : Sto → Sto → Prop) (f g : Nat → Int32 → Int32 → Int32 → Int32 → Int32 → Sto → Option (ρ × Sto)) : Prop := ∀ (σc σm : Sto) (a0 : Int32) (a1 : Int32) (a2 : Int32) (a3 : Int32) (a4 : Int32), Rel σc σm → ∃ (r : ρ) (σc' σm' : Sto), f 0 a0 a1 a2 a3 a4 σc = some (r, σc') ∧ g 0 a0 a1 a2 a3 a4 σm = some (r, σm') ∧ Rel σc' σm'
/-- class and model answer alike, call by call, where the relation Rel holds -/
def LawOK (Rel : Sto → Sto → Prop) : Prop := Ag_IIIII Rel fX11_feed fX12_feed ∧
  Ag_I Rel fX11_back fX12_back ∧
  Ag_ Rel fX11_read fX12_read ∧
  Ag_ Rel fX11_place fX12_place ∧
  Ag_II Rel fX11_book fX12_book ∧
  Ag_I Rel fX11_level fX12_level ∧
  Ag_I Rel fX11_load fX12_load ∧
  Ag_IB Rel fX11_point fX12_point ∧
  Ag_ Rel fX11_stands fX12_stands ∧
  Ag_I Rel fX11_tips fX12_tips ∧
  Ag_ Rel fX11_over fX12_over ∧
  Ag_IIB Rel fX11_lay fX12_lay ∧
  Ag_ Rel fX11_lift fX12_lift ∧
  Ag_II Rel fX11_move fX12_move ∧
  Ag_ Rel fX11_undo fX12_undo ∧
  Ag_II Rel fX11_bears fX12_bears ∧
  Ag_II Rel fX11_holds fX12_holds ∧
  Ag_I Rel fX11_pushed fX12_pushed ∧
  Ag_ Rel fX11_takings fX12_takings ∧
  Ag_IB Rel fX11_slides fX12_slides ∧
  Ag_I Rel fX11_out fX12_out ∧
  Ag_IB Rel fX11_reach fX12_reach ∧
  Ag_I Rel fX11_bestOrder fX12_bestOrder ∧
  Ag_IB Rel fX11_alike fX12_alike ∧
  Ag_II Rel fX11_needed fX12_needed ∧
  Ag_B Rel fX11_see fX12_see ∧
  Ag_ Rel fX11_forget fX12_forget ∧
  Ag_II Rel fX11_fits fX12_fits ∧
  Ag_III Rel fX11_span fX12_span ∧
  Ag_I Rel fX11_hold fX12_hold ∧
  Ag_I Rel fX11_restore fX12_restore ∧
  Ag_I Rel fX11_count fX12_count
set_option maxHeartbeats 4000000 in
set_option maxRecDepth 100000 in
theorem law_loop {p : Program} {e : Env} {s : State} {m : MethodId} {below : List Frame} {meth : Method} {c : Code} {l : Launch} {D : va_G} {cy : Nat → ClassId} {aK aV : Nat → Nat} {qc qm b L : Nat} {xs : Nat → Int32} (hL : L ≤ 3072) (C0 : lw_At p s m meth c b L xs) (Rel : Sto → Sto → Prop) (hOK : LawOK Rel) (hO0 : ∀ σc σm, Rel σc σm → (∃ fs, hs_o σc 11 0 = some fs) ∧ ∃ fs, hs_o σm 12 0 = some fs) (hXc : hs_X (l, D, qc, cy, aK, aV) (lw_A s) s s.heap) (hXm : hs_X (l, D, qm, cy, aK, aV) (lw_A s) s s.heap) :
    ∀ (n i : Nat) (x3 : Int32) (H : Heap) (locs : List Loc) (σc σm : Sto) (ls : Array Slot), i ≤ L + 6 → L + 7 ≤ i + n → x3 = nI i → LI (l, D, qc, cy, aK, aV) (l, D, qm, cy, aK, aV) σc σm s H locs → Rel σc σm → lv_has ls 4 [(0, .ref b), (1, .ref qc), (2, .ref qm), (3, .int x3)] → W p l e room_1 s m #[Value.ref b] below meth c H locs 600000 7302250 (lw_Z below #[Value.ref b] s) (F0 m 18 ls []) := by
  obtain ⟨hx, hb, hr, hml, hown, hts0, hX, hbl, hlocks, hgv⟩ := C0
  obtain ⟨g0, g1, g2, g3, g4, g5, g6, g7, g8, g9, g10, g11, g12, g13, g14, g15, g16, g17, g18, g19, g20, g21, g22, g23, g24, g25, g26, g27, g28, g29, g30, g31⟩ := hOK
  have hts : ∀ w ∈ hs_T, w.before #[Value.ref b] s = true := fun w hw => hts0 w (List.mem_filter.mp hw).1
  have hbA : ¬ lw_A s b := Nat.not_le.mpr hbl
  obtain ⟨Gc, hGc⟩ : ∃ Gc : GP, Gc = (l, D, qc, cy, aK, aV) := ⟨_, rfl⟩
  obtain ⟨Gm, hGm⟩ : ∃ Gm : GP, Gm = (l, D, qm, cy, aK, aV) := ⟨_, rfl⟩
  intro n
  induction n with
  | zero => intro i x3 H locs σc σm ls h1 h2; exact absurd h2 (by omega)
  | succ n ih =>
    intro i x3 H locs σc σm ls hi hin ex3 hI hR hl
    refine lv_iload_n hx hb dL_law_18 rfl (lv_at hl 3 rfl) ?_
    refine lv_aload_n hx hb dL_law_19 rfl (lv_at hl 0 rfl) ?_
    refine va_slen hx hb hX hbl hbA hI.2.2.2.2.2 dL_law_20 ?_
    refine lv_bipush (v := 6) hx hb dL_law_21 (by decide) ?_
    refine lv_isub hx hb dL_law_23 ?_
    refine lv_icmp_gt (tgt := 1117) hx hb dL_law_24 (by decide) (fun _ => ?_) (fun hlt => ?_)
    · refine lv_iconst (v := 1) hx hb dL_law_1117 (by decide) ?_
      refine va_forget (fun q hq => hI.2.2.2.2.2.2.2 q hq) ?_
      exact lw_ret hx hb hr hlocks dL_law_1118
    · have hiL : i + 6 ≤ L := by
        rcases Nat.lt_or_ge L (i + 6) with q | q
        · exfalso
          apply hlt
          rw [ex3, Int32.lt_iff_toInt_lt]
          have e1 : (Int32.ofNat L - 6).toInt = (L : Int) - 6 := pk_sub_toInt (a := L) (b := 6) (by omega) (by omega)
          rw [e1, nI_toInt (by omega)]
          omega
        · exact q
      have v0 : vp_in x3 L := by rw [ex3]; exact vp_in_nI (by omega) (by omega)
      have v1 : vp_in (x3 + 1) L := by rw [ex3, show nI i + 1 = nI (i + 1) from nI_add i 1]; exact vp_in_nI (by omega) (by omega)
      have v2 : vp_in (x3 + 2) L := by rw [ex3, show nI i + 2 = nI (i + 2) from nI_add i 2]; exact vp_in_nI (by omega) (by omega)
      have v3 : vp_in (x3 + 3) L := by rw [ex3, show nI i + 3 = nI (i + 3) from nI_add i 3]; exact vp_in_nI (by omega) (by omega)
      have v4 : vp_in (x3 + 4) L := by rw [ex3, show nI i + 4 = nI (i + 4) from nI_add i 4]; exact vp_in_nI (by omega) (by omega)
      have v5 : vp_in (x3 + 5) L := by rw [ex3, show nI i + 5 = nI (i + 5) from nI_add i 5]; exact vp_in_nI (by omega) (by omega)
      have hE : ∀ (H2 : Heap) (locs2 : List Loc) (σc1 σm1 : Sto), LI (l, D, qc, cy, aK, aV) (l, D, qm, cy, aK, aV) σc1 σm1 s H2 locs2 → Rel σc1 σm1 → W p l e room_1 s m #[Value.ref b] below meth c H2 locs2 600000 7302250 (lw_Z below #[Value.ref b] s) (F0 m 1111 ls []) := by
        intro H2 locs2 σc1 σm1 hI2 hR2
        obtain ⟨x4, ex4⟩ : ∃ y : Int32, y = x3 + 6 := ⟨_, rfl⟩
        refine lv_iinc (v := x4) (lv' := [(3, .int x4), (0, .ref b), (1, .ref qc), (2, .ref qm)]) hx hb dL_law_1111 hl (k := 3) rfl (by rw [ex4]; rfl) (by decide) rfl (fun ls hl => ?_)
        refine lv_goto (tgt := 18) hx hb dL_law_1114 (by decide) ?_
        exact ih (i + 6) x4 H2 locs2 σc1 σm1 ls (by omega) (by omega) (by rw [ex4, ex3]; exact nI_add i 6) hI2 hR2 (lv_sub hl [1, 2, 3, 0] rfl)
      have hO : ∀ σc σm, Rel σc σm → hs_o σc 11 0 = some ((hs_o σc 11 0).getD []) ∧ hs_o σm 12 0 = some ((hs_o σm 12 0).getD []) := by
        intro a b hab
        obtain ⟨⟨f1, e1⟩, f2, e2⟩ := hO0 a b hab
        rw [e1, e2]
        exact ⟨rfl, rfl⟩
      rw [← hGc, ← hGm] at hI hE
      rw [← hGc] at hXc
      rw [← hGm] at hXm
      refine lv_aload_n hx hb dL_law_27 rfl (lv_at hl 0 rfl) ?_
      refine lv_iload_n hx hb dL_law_28 rfl (lv_at hl 3 rfl) ?_
      refine va_sld hx hb hX hbl hbA hI.2.2.2.2.2 v0 dL_law_29 ?_
      refine lv_bipush (v := 31) hx hb dL_law_30 (by decide) ?_
      refine lv_iand hx hb dL_law_32 ?_
      obtain ⟨j, hj, ej⟩ := pk_andE (xs x3.toNatClampNeg) (m := 31) 5 (by decide)
      rw [ej]
      subst hGc; subst hGm
      by_cases hj0 : j = 0
      · subst hj0
        refine lv_tableIn (off := 143) (tgt := 176) hx hb dL_law_33 (by decide) (by decide) (by decide) (by decide) ?_
        obtain ⟨r, σc1, σm1, hc1, hm1, hR1⟩ := g0 σc σm (xs (x3 + 1).toNatClampNeg) (xs (x3 + 2).toNatClampNeg) (xs (x3 + 3).toNatClampNeg) (xs (x3 + 4).toNatClampNeg) (xs (x3 + 5).toNatClampNeg)  hR
        refine lv_aload_n hx hb dL_law_176 rfl (lv_at hl 1 rfl) ?_
        refine lv_aload_n hx hb dL_law_177 rfl (lv_at hl 0 rfl) ?_
        refine lv_iload_n hx hb dL_law_178 rfl (lv_at hl 3 rfl) ?_
        refine lv_iconst (v := 1) hx hb dL_law_179 (by decide) ?_
        refine lv_iadd hx hb dL_law_180 ?_
        refine va_sld hx hb hX hbl hbA hI.2.2.2.2.2 v1 dL_law_181 ?_
        refine lv_aload_n hx hb dL_law_182 rfl (lv_at hl 0 rfl) ?_
        refine lv_iload_n hx hb dL_law_183 rfl (lv_at hl 3 rfl) ?_
        refine lv_iconst (v := 2) hx hb dL_law_184 (by decide) ?_
        refine lv_iadd hx hb dL_law_185 ?_
        refine va_sld hx hb hX hbl hbA hI.2.2.2.2.2 v2 dL_law_186 ?_
        refine lv_aload_n hx hb dL_law_187 rfl (lv_at hl 0 rfl) ?_
        refine lv_iload_n hx hb dL_law_188 rfl (lv_at hl 3 rfl) ?_
        refine lv_iconst (v := 3) hx hb dL_law_189 (by decide) ?_
        refine lv_iadd hx hb dL_law_190 ?_
        refine va_sld hx hb hX hbl hbA hI.2.2.2.2.2 v3 dL_law_191 ?_
        refine lv_aload_n hx hb dL_law_192 rfl (lv_at hl 0 rfl) ?_
        refine lv_iload_n hx hb dL_law_193 rfl (lv_at hl 3 rfl) ?_
        refine lv_iconst (v := 4) hx hb dL_law_194 (by decide) ?_
        refine lv_iadd hx hb dL_law_195 ?_
        refine va_sld hx hb hX hbl hbA hI.2.2.2.2.2 v4 dL_law_196 ?_
        refine lv_aload_n hx hb dL_law_197 rfl (lv_at hl 0 rfl) ?_
        refine lv_iload_n hx hb dL_law_198 rfl (lv_at hl 3 rfl) ?_
        refine lv_iconst (v := 5) hx hb dL_law_199 (by decide) ?_
        refine lv_iadd hx hb dL_law_200 ?_
        refine va_sld hx hb hX hbl hbA hI.2.2.2.2.2 v5 dL_law_201 ?_
        refine lw_call (G1 := (l, D, qc, cy, aK, aV)) (G2 := (l, D, qm, cy, aK, aV)) (ci := 11) (M' := mX11_feed) (h' := 2) (As := [.int (xs (x3 + 1).toNatClampNeg), .int (xs (x3 + 2).toNatClampNeg), .int (xs (x3 + 3).toNatClampNeg), .int (xs (x3 + 4).toNatClampNeg), .int (xs (x3 + 5).toNatClampNeg)]) (rest := []) hx hb hml hown hts hXc hI hl.1 mfX11_feed mvX11_feed rfl ll_13 dL_law_202 (kX11_feed (l, D, qc, cy, aK, aV) _ _ _ _ _ _ _) hc1 (hO _ _ hR).1 ⟨Nat.le_of_ble_eq_true rfl, Nat.le_of_ble_eq_true rfl⟩ rfl rfl rfl (Nat.le_of_ble_eq_true rfl) ⟨Nat.le_of_ble_eq_true rfl, Nat.le_of_ble_eq_true rfl⟩ (fun H1 locs1 hI1 => ?_)
        refine lv_aload_n hx hb dL_law_205 rfl (lv_at hl 2 rfl) ?_
        refine lv_aload_n hx hb dL_law_206 rfl (lv_at hl 0 rfl) ?_
        refine lv_iload_n hx hb dL_law_207 rfl (lv_at hl 3 rfl) ?_
        refine lv_iconst (v := 1) hx hb dL_law_208 (by decide) ?_
        refine lv_iadd hx hb dL_law_209 ?_
        refine va_sld hx hb hX hbl hbA hI1.2.2.2.2.2 v1 dL_law_210 ?_
        refine lv_aload_n hx hb dL_law_211 rfl (lv_at hl 0 rfl) ?_
        refine lv_iload_n hx hb dL_law_212 rfl (lv_at hl 3 rfl) ?_
        refine lv_iconst (v := 2) hx hb dL_law_213 (by decide) ?_
        refine lv_iadd hx hb dL_law_214 ?_
        refine va_sld hx hb hX hbl hbA hI1.2.2.2.2.2 v2 dL_law_215 ?_
        refine lv_aload_n hx hb dL_law_216 rfl (lv_at hl 0 rfl) ?_
        refine lv_iload_n hx hb dL_law_217 rfl (lv_at hl 3 rfl) ?_
        refine lv_iconst (v := 3) hx hb dL_law_218 (by decide) ?_
        refine lv_iadd hx hb dL_law_219 ?_
        refine va_sld hx hb hX hbl hbA hI1.2.2.2.2.2 v3 dL_law_220 ?_
        refine lv_aload_n hx hb dL_law_221 rfl (lv_at hl 0 rfl) ?_
        refine lv_iload_n hx hb dL_law_222 rfl (lv_at hl 3 rfl) ?_
        refine lv_iconst (v := 4) hx hb dL_law_223 (by decide) ?_
        refine lv_iadd hx hb dL_law_224 ?_
        refine va_sld hx hb hX hbl hbA hI1.2.2.2.2.2 v4 dL_law_225 ?_
        refine lv_aload_n hx hb dL_law_226 rfl (lv_at hl 0 rfl) ?_
        refine lv_iload_n hx hb dL_law_227 rfl (lv_at hl 3 rfl) ?_
        refine lv_iconst (v := 5) hx hb dL_law_228 (by decide) ?_
        refine lv_iadd hx hb dL_law_229 ?_
        refine va_sld hx hb hX hbl hbA hI1.2.2.2.2.2 v5 dL_law_230 ?_
        refine lw_call (G1 := (l, D, qm, cy, aK, aV)) (G2 := (l, D, qc, cy, aK, aV)) (ci := 12) (M' := mX12_feed) (h' := 2) (As := [.int (xs (x3 + 1).toNatClampNeg), .int (xs (x3 + 2).toNatClampNeg), .int (xs (x3 + 3).toNatClampNeg), .int (xs (x3 + 4).toNatClampNeg), .int (xs (x3 + 5).toNatClampNeg)]) (rest := [.int r]) hx hb hml hown hts hXm (LI.swap hI1) hl.1 mfX12_feed mvX12_feed rfl ll_17 dL_law_231 (kX12_feed (l, D, qm, cy, aK, aV) _ _ _ _ _ _ _) hm1 (hO _ _ hR).2 ⟨Nat.le_of_ble_eq_true rfl, Nat.le_of_ble_eq_true rfl⟩ rfl rfl rfl (Nat.le_of_ble_eq_true rfl) ⟨Nat.le_of_ble_eq_true rfl, Nat.le_of_ble_eq_true rfl⟩ (fun H2 locs2 hI2 => ?_)
        refine lv_icmp_eq (tgt := 1111) hx hb dL_law_234 (by decide) (fun _ => ?_) (fun hq => absurd rfl hq)
        exact hE H2 locs2 σc1 σm1 (LI.swap hI2) hR1
      by_cases hj1 : j = 1
      · subst hj1
        refine lv_tableIn (off := 206) (tgt := 239) hx hb dL_law_33 (by decide) (by decide) (by decide) (by decide) ?_
        obtain ⟨r, σc1, σm1, hc1, hm1, hR1⟩ := g1 σc σm (xs (x3 + 1).toNatClampNeg)  hR
        refine lv_aload_n hx hb dL_law_239 rfl (lv_at hl 1 rfl) ?_
        refine lv_aload_n hx hb dL_law_240 rfl (lv_at hl 0 rfl) ?_
        refine lv_iload_n hx hb dL_law_241 rfl (lv_at hl 3 rfl) ?_
        refine lv_iconst (v := 1) hx hb dL_law_242 (by decide) ?_
        refine lv_iadd hx hb dL_law_243 ?_
        refine va_sld hx hb hX hbl hbA hI.2.2.2.2.2 v1 dL_law_244 ?_
        refine lw_call (G1 := (l, D, qc, cy, aK, aV)) (G2 := (l, D, qm, cy, aK, aV)) (ci := 11) (M' := mX11_back) (h' := 1) (As := [.int (xs (x3 + 1).toNatClampNeg)]) (rest := []) hx hb hml hown hts hXc hI hl.1 mfX11_back mvX11_back rfl ll_18 dL_law_245 (kX11_back (l, D, qc, cy, aK, aV) _ _ _) hc1 (hO _ _ hR).1 ⟨Nat.le_of_ble_eq_true rfl, Nat.le_of_ble_eq_true rfl⟩ rfl rfl rfl (Nat.le_of_ble_eq_true rfl) ⟨Nat.le_of_ble_eq_true rfl, Nat.le_of_ble_eq_true rfl⟩ (fun H1 locs1 hI1 => ?_)
        refine lv_aload_n hx hb dL_law_248 rfl (lv_at hl 2 rfl) ?_
        refine lv_aload_n hx hb dL_law_249 rfl (lv_at hl 0 rfl) ?_
        refine lv_iload_n hx hb dL_law_250 rfl (lv_at hl 3 rfl) ?_
        refine lv_iconst (v := 1) hx hb dL_law_251 (by decide) ?_
        refine lv_iadd hx hb dL_law_252 ?_
        refine va_sld hx hb hX hbl hbA hI1.2.2.2.2.2 v1 dL_law_253 ?_
        refine lw_call (G1 := (l, D, qm, cy, aK, aV)) (G2 := (l, D, qc, cy, aK, aV)) (ci := 12) (M' := mX12_back) (h' := 1) (As := [.int (xs (x3 + 1).toNatClampNeg)]) (rest := [.int r]) hx hb hml hown hts hXm (LI.swap hI1) hl.1 mfX12_back mvX12_back rfl ll_22 dL_law_254 (kX12_back (l, D, qm, cy, aK, aV) _ _ _) hm1 (hO _ _ hR).2 ⟨Nat.le_of_ble_eq_true rfl, Nat.le_of_ble_eq_true rfl⟩ rfl rfl rfl (Nat.le_of_ble_eq_true rfl) ⟨Nat.le_of_ble_eq_true rfl, Nat.le_of_ble_eq_true rfl⟩ (fun H2 locs2 hI2 => ?_)
        refine lv_icmp_eq (tgt := 1111) hx hb dL_law_257 (by decide) (fun _ => ?_) (fun hq => absurd rfl hq)
        exact hE H2 locs2 σc1 σm1 (LI.swap hI2) hR1
      by_cases hj2 : j = 2
      · subst hj2
        refine lv_tableIn (off := 229) (tgt := 262) hx hb dL_law_33 (by decide) (by decide) (by decide) (by decide) ?_
        obtain ⟨r, σc1, σm1, hc1, hm1, hR1⟩ := g2 σc σm   hR
        refine lv_aload_n hx hb dL_law_262 rfl (lv_at hl 1 rfl) ?_
        refine lw_call (G1 := (l, D, qc, cy, aK, aV)) (G2 := (l, D, qm, cy, aK, aV)) (ci := 11) (M' := mX11_read) (h' := 30) (As := []) (rest := []) hx hb hml hown hts hXc hI hl.1 mfX11_read mvX11_read rfl ll_23 dL_law_263 (kX11_read (l, D, qc, cy, aK, aV) _ _) hc1 (hO _ _ hR).1 ⟨Nat.le_of_ble_eq_true rfl, Nat.le_of_ble_eq_true rfl⟩ rfl rfl rfl (Nat.le_of_ble_eq_true rfl) ⟨Nat.le_of_ble_eq_true rfl, Nat.le_of_ble_eq_true rfl⟩ (fun H1 locs1 hI1 => ?_)
        refine lv_aload_n hx hb dL_law_266 rfl (lv_at hl 2 rfl) ?_
        refine lw_call (G1 := (l, D, qm, cy, aK, aV)) (G2 := (l, D, qc, cy, aK, aV)) (ci := 12) (M' := mX12_read) (h' := 8) (As := []) (rest := [.int r]) hx hb hml hown hts hXm (LI.swap hI1) hl.1 mfX12_read mvX12_read rfl ll_27 dL_law_267 (kX12_read (l, D, qm, cy, aK, aV) _ _) hm1 (hO _ _ hR).2 ⟨Nat.le_of_ble_eq_true rfl, Nat.le_of_ble_eq_true rfl⟩ rfl rfl rfl (Nat.le_of_ble_eq_true rfl) ⟨Nat.le_of_ble_eq_true rfl, Nat.le_of_ble_eq_true rfl⟩ (fun H2 locs2 hI2 => ?_)
        refine lv_icmp_eq (tgt := 1111) hx hb dL_law_270 (by decide) (fun _ => ?_) (fun hq => absurd rfl hq)
        exact hE H2 locs2 σc1 σm1 (LI.swap hI2) hR1
      by_cases hj3 : j = 3
      · subst hj3
        refine lv_tableIn (off := 242) (tgt := 275) hx hb dL_law_33 (by decide) (by decide) (by decide) (by decide) ?_
        obtain ⟨r, σc1, σm1, hc1, hm1, hR1⟩ := g3 σc σm   hR
        refine lv_aload_n hx hb dL_law_275 rfl (lv_at hl 1 rfl) ?_
        refine lw_call (G1 := (l, D, qc, cy, aK, aV)) (G2 := (l, D, qm, cy, aK, aV)) (ci := 11) (M' := mX11_place) (h' := 1) (As := []) (rest := []) hx hb hml hown hts hXc hI hl.1 mfX11_place mvX11_place rfl ll_28 dL_law_276 (kX11_place (l, D, qc, cy, aK, aV) _ _) hc1 (hO _ _ hR).1 ⟨Nat.le_of_ble_eq_true rfl, Nat.le_of_ble_eq_true rfl⟩ rfl rfl rfl (Nat.le_of_ble_eq_true rfl) ⟨Nat.le_of_ble_eq_true rfl, Nat.le_of_ble_eq_true rfl⟩ (fun H1 locs1 hI1 => ?_)
        refine lv_aload_n hx hb dL_law_279 rfl (lv_at hl 2 rfl) ?_
        refine lw_call (G1 := (l, D, qm, cy, aK, aV)) (G2 := (l, D, qc, cy, aK, aV)) (ci := 12) (M' := mX12_place) (h' := 1) (As := []) (rest := [.int r]) hx hb hml hown hts hXm (LI.swap hI1) hl.1 mfX12_place mvX12_place rfl ll_31 dL_law_280 (kX12_place (l, D, qm, cy, aK, aV) _ _) hm1 (hO _ _ hR).2 ⟨Nat.le_of_ble_eq_true rfl, Nat.le_of_ble_eq_true rfl⟩ rfl rfl rfl (Nat.le_of_ble_eq_true rfl) ⟨Nat.le_of_ble_eq_true rfl, Nat.le_of_ble_eq_true rfl⟩ (fun H2 locs2 hI2 => ?_)
        refine lv_icmp_eq (tgt := 1111) hx hb dL_law_283 (by decide) (fun _ => ?_) (fun hq => absurd rfl hq)
        exact hE H2 locs2 σc1 σm1 (LI.swap hI2) hR1
      by_cases hj4 : j = 4
      · subst hj4
        refine lv_tableIn (off := 255) (tgt := 288) hx hb dL_law_33 (by decide) (by decide) (by decide) (by decide) ?_
        obtain ⟨r, σc1, σm1, hc1, hm1, hR1⟩ := g4 σc σm (xs (x3 + 1).toNatClampNeg) (xs (x3 + 2).toNatClampNeg)  hR
        refine lv_aload_n hx hb dL_law_288 rfl (lv_at hl 1 rfl) ?_
        refine lv_aload_n hx hb dL_law_289 rfl (lv_at hl 0 rfl) ?_
        refine lv_iload_n hx hb dL_law_290 rfl (lv_at hl 3 rfl) ?_
        refine lv_iconst (v := 1) hx hb dL_law_291 (by decide) ?_
        refine lv_iadd hx hb dL_law_292 ?_
        refine va_sld hx hb hX hbl hbA hI.2.2.2.2.2 v1 dL_law_293 ?_
        refine lv_aload_n hx hb dL_law_294 rfl (lv_at hl 0 rfl) ?_
        refine lv_iload_n hx hb dL_law_295 rfl (lv_at hl 3 rfl) ?_
        refine lv_iconst (v := 2) hx hb dL_law_296 (by decide) ?_
        refine lv_iadd hx hb dL_law_297 ?_
        refine va_sld hx hb hX hbl hbA hI.2.2.2.2.2 v2 dL_law_298 ?_
        refine lw_call (G1 := (l, D, qc, cy, aK, aV)) (G2 := (l, D, qm, cy, aK, aV)) (ci := 11) (M' := mX11_book) (h' := 4) (As := [.int (xs (x3 + 1).toNatClampNeg), .int (xs (x3 + 2).toNatClampNeg)]) (rest := []) hx hb hml hown hts hXc hI hl.1 mfX11_book mvX11_book rfl ll_32 dL_law_299 (kX11_book (l, D, qc, cy, aK, aV) _ _ _ _) hc1 (hO _ _ hR).1 ⟨Nat.le_of_ble_eq_true rfl, Nat.le_of_ble_eq_true rfl⟩ rfl rfl rfl (Nat.le_of_ble_eq_true rfl) ⟨Nat.le_of_ble_eq_true rfl, Nat.le_of_ble_eq_true rfl⟩ (fun H1 locs1 hI1 => ?_)
        refine lv_aload_n hx hb dL_law_302 rfl (lv_at hl 2 rfl) ?_
        refine lv_aload_n hx hb dL_law_303 rfl (lv_at hl 0 rfl) ?_
        refine lv_iload_n hx hb dL_law_304 rfl (lv_at hl 3 rfl) ?_
        refine lv_iconst (v := 1) hx hb dL_law_305 (by decide) ?_
        refine lv_iadd hx hb dL_law_306 ?_
        refine va_sld hx hb hX hbl hbA hI1.2.2.2.2.2 v1 dL_law_307 ?_
        refine lv_aload_n hx hb dL_law_308 rfl (lv_at hl 0 rfl) ?_
        refine lv_iload_n hx hb dL_law_309 rfl (lv_at hl 3 rfl) ?_
        refine lv_iconst (v := 2) hx hb dL_law_310 (by decide) ?_
        refine lv_iadd hx hb dL_law_311 ?_
        refine va_sld hx hb hX hbl hbA hI1.2.2.2.2.2 v2 dL_law_312 ?_
        refine lw_call (G1 := (l, D, qm, cy, aK, aV)) (G2 := (l, D, qc, cy, aK, aV)) (ci := 12) (M' := mX12_book) (h' := 4) (As := [.int (xs (x3 + 1).toNatClampNeg), .int (xs (x3 + 2).toNatClampNeg)]) (rest := [.int r]) hx hb hml hown hts hXm (LI.swap hI1) hl.1 mfX12_book mvX12_book rfl ll_36 dL_law_313 (kX12_book (l, D, qm, cy, aK, aV) _ _ _ _) hm1 (hO _ _ hR).2 ⟨Nat.le_of_ble_eq_true rfl, Nat.le_of_ble_eq_true rfl⟩ rfl rfl rfl (Nat.le_of_ble_eq_true rfl) ⟨Nat.le_of_ble_eq_true rfl, Nat.le_of_ble_eq_true rfl⟩ (fun H2 locs2 hI2 => ?_)
        refine lv_icmp_eq (tgt := 1111) hx hb dL_law_316 (by decide) (fun _ => ?_) (fun hq => absurd rfl hq)
        exact hE H2 locs2 σc1 σm1 (LI.swap hI2) hR1
      by_cases hj5 : j = 5
      · subst hj5
        refine lv_tableIn (off := 288) (tgt := 321) hx hb dL_law_33 (by decide) (by decide) (by decide) (by decide) ?_
        obtain ⟨r, σc1, σm1, hc1, hm1, hR1⟩ := g5 σc σm (xs (x3 + 1).toNatClampNeg)  hR
        refine lv_aload_n hx hb dL_law_321 rfl (lv_at hl 1 rfl) ?_
        refine lv_aload_n hx hb dL_law_322 rfl (lv_at hl 0 rfl) ?_
        refine lv_iload_n hx hb dL_law_323 rfl (lv_at hl 3 rfl) ?_
        refine lv_iconst (v := 1) hx hb dL_law_324 (by decide) ?_
        refine lv_iadd hx hb dL_law_325 ?_
        refine va_sld hx hb hX hbl hbA hI.2.2.2.2.2 v1 dL_law_326 ?_
        refine lw_call (G1 := (l, D, qc, cy, aK, aV)) (G2 := (l, D, qm, cy, aK, aV)) (ci := 11) (M' := mX11_level) (h' := 2) (As := [.int (xs (x3 + 1).toNatClampNeg)]) (rest := []) hx hb hml hown hts hXc hI hl.1 mfX11_level mvX11_level rfl ll_37 dL_law_327 (kX11_level (l, D, qc, cy, aK, aV) _ _ _) hc1 (hO _ _ hR).1 ⟨Nat.le_of_ble_eq_true rfl, Nat.le_of_ble_eq_true rfl⟩ rfl rfl rfl (Nat.le_of_ble_eq_true rfl) ⟨Nat.le_of_ble_eq_true rfl, Nat.le_of_ble_eq_true rfl⟩ (fun H1 locs1 hI1 => ?_)
        refine lv_aload_n hx hb dL_law_330 rfl (lv_at hl 2 rfl) ?_
        refine lv_aload_n hx hb dL_law_331 rfl (lv_at hl 0 rfl) ?_
        refine lv_iload_n hx hb dL_law_332 rfl (lv_at hl 3 rfl) ?_
        refine lv_iconst (v := 1) hx hb dL_law_333 (by decide) ?_
        refine lv_iadd hx hb dL_law_334 ?_
        refine va_sld hx hb hX hbl hbA hI1.2.2.2.2.2 v1 dL_law_335 ?_
        refine lw_call (G1 := (l, D, qm, cy, aK, aV)) (G2 := (l, D, qc, cy, aK, aV)) (ci := 12) (M' := mX12_level) (h' := 3) (As := [.int (xs (x3 + 1).toNatClampNeg)]) (rest := [.int r]) hx hb hml hown hts hXm (LI.swap hI1) hl.1 mfX12_level mvX12_level rfl ll_40 dL_law_336 (kX12_level (l, D, qm, cy, aK, aV) _ _ _) hm1 (hO _ _ hR).2 ⟨Nat.le_of_ble_eq_true rfl, Nat.le_of_ble_eq_true rfl⟩ rfl rfl rfl (Nat.le_of_ble_eq_true rfl) ⟨Nat.le_of_ble_eq_true rfl, Nat.le_of_ble_eq_true rfl⟩ (fun H2 locs2 hI2 => ?_)
        refine lv_icmp_eq (tgt := 1111) hx hb dL_law_339 (by decide) (fun _ => ?_) (fun hq => absurd rfl hq)
        exact hE H2 locs2 σc1 σm1 (LI.swap hI2) hR1
      by_cases hj6 : j = 6
      · subst hj6
        refine lv_tableIn (off := 311) (tgt := 344) hx hb dL_law_33 (by decide) (by decide) (by decide) (by decide) ?_
        obtain ⟨r, σc1, σm1, hc1, hm1, hR1⟩ := g6 σc σm (xs (x3 + 1).toNatClampNeg)  hR
        refine lv_aload_n hx hb dL_law_344 rfl (lv_at hl 1 rfl) ?_
        refine lv_aload_n hx hb dL_law_345 rfl (lv_at hl 0 rfl) ?_
        refine lv_iload_n hx hb dL_law_346 rfl (lv_at hl 3 rfl) ?_
        refine lv_iconst (v := 1) hx hb dL_law_347 (by decide) ?_
        refine lv_iadd hx hb dL_law_348 ?_
        refine va_sld hx hb hX hbl hbA hI.2.2.2.2.2 v1 dL_law_349 ?_
        refine lw_call (G1 := (l, D, qc, cy, aK, aV)) (G2 := (l, D, qm, cy, aK, aV)) (ci := 11) (M' := mX11_load) (h' := 5) (As := [.int (xs (x3 + 1).toNatClampNeg)]) (rest := []) hx hb hml hown hts hXc hI hl.1 mfX11_load mvX11_load rfl ll_41 dL_law_350 (kX11_load (l, D, qc, cy, aK, aV) _ _ _) hc1 (hO _ _ hR).1 ⟨Nat.le_of_ble_eq_true rfl, Nat.le_of_ble_eq_true rfl⟩ rfl rfl rfl (Nat.le_of_ble_eq_true rfl) ⟨Nat.le_of_ble_eq_true rfl, Nat.le_of_ble_eq_true rfl⟩ (fun H1 locs1 hI1 => ?_)
        refine lv_aload_n hx hb dL_law_353 rfl (lv_at hl 2 rfl) ?_
        refine lv_aload_n hx hb dL_law_354 rfl (lv_at hl 0 rfl) ?_
        refine lv_iload_n hx hb dL_law_355 rfl (lv_at hl 3 rfl) ?_
        refine lv_iconst (v := 1) hx hb dL_law_356 (by decide) ?_
        refine lv_iadd hx hb dL_law_357 ?_
        refine va_sld hx hb hX hbl hbA hI1.2.2.2.2.2 v1 dL_law_358 ?_
        refine lw_call (G1 := (l, D, qm, cy, aK, aV)) (G2 := (l, D, qc, cy, aK, aV)) (ci := 12) (M' := mX12_load) (h' := 5) (As := [.int (xs (x3 + 1).toNatClampNeg)]) (rest := [.int r]) hx hb hml hown hts hXm (LI.swap hI1) hl.1 mfX12_load mvX12_load rfl ll_44 dL_law_359 (kX12_load (l, D, qm, cy, aK, aV) _ _ _) hm1 (hO _ _ hR).2 ⟨Nat.le_of_ble_eq_true rfl, Nat.le_of_ble_eq_true rfl⟩ rfl rfl rfl (Nat.le_of_ble_eq_true rfl) ⟨Nat.le_of_ble_eq_true rfl, Nat.le_of_ble_eq_true rfl⟩ (fun H2 locs2 hI2 => ?_)
        refine lv_icmp_eq (tgt := 1111) hx hb dL_law_362 (by decide) (fun _ => ?_) (fun hq => absurd rfl hq)
        exact hE H2 locs2 σc1 σm1 (LI.swap hI2) hR1
      by_cases hj7 : j = 7
      · subst hj7
        refine lv_tableIn (off := 334) (tgt := 367) hx hb dL_law_33 (by decide) (by decide) (by decide) (by decide) ?_
        by_cases hz1 : (xs (x3 + 2).toNatClampNeg) = 0
        · skip
          obtain ⟨r, σc1, σm1, hc1, hm1, hR1⟩ := g7 σc σm (xs (x3 + 1).toNatClampNeg) (0 : Int32) (by decide) hR
          refine lv_aload_n hx hb dL_law_367 rfl (lv_at hl 1 rfl) ?_
          refine lv_aload_n hx hb dL_law_368 rfl (lv_at hl 0 rfl) ?_
          refine lv_iload_n hx hb dL_law_369 rfl (lv_at hl 3 rfl) ?_
          refine lv_iconst (v := 1) hx hb dL_law_370 (by decide) ?_
          refine lv_iadd hx hb dL_law_371 ?_
          refine va_sld hx hb hX hbl hbA hI.2.2.2.2.2 v1 dL_law_372 ?_
          refine lv_aload_n hx hb dL_law_373 rfl (lv_at hl 0 rfl) ?_
          refine lv_iload_n hx hb dL_law_374 rfl (lv_at hl 3 rfl) ?_
          refine lv_iconst (v := 2) hx hb dL_law_375 (by decide) ?_
          refine lv_iadd hx hb dL_law_376 ?_
          refine va_sld hx hb hX hbl hbA hI.2.2.2.2.2 v2 dL_law_377 ?_
          refine lv_if_eq (tgt := 385) hx hb dL_law_378 (by decide) (fun _ => ?_) (fun hq => absurd hz1 hq)
          refine lv_iconst (v := 0) hx hb dL_law_385 (by decide) ?_
          refine lw_call (G1 := (l, D, qc, cy, aK, aV)) (G2 := (l, D, qm, cy, aK, aV)) (ci := 11) (M' := mX11_point) (h' := 5) (As := [.int (xs (x3 + 1).toNatClampNeg), .int (0 : Int32)]) (rest := []) hx hb hml hown hts hXc hI hl.1 mfX11_point mvX11_point rfl ll_45 dL_law_386 (kX11_point (l, D, qc, cy, aK, aV) _ _ _ _) hc1 (hO _ _ hR).1 ⟨Nat.le_of_ble_eq_true rfl, Nat.le_of_ble_eq_true rfl⟩ rfl rfl rfl (Nat.le_of_ble_eq_true rfl) ⟨Nat.le_of_ble_eq_true rfl, Nat.le_of_ble_eq_true rfl⟩ (fun H1 locs1 hI1 => ?_)
          refine lv_aload_n hx hb dL_law_389 rfl (lv_at hl 2 rfl) ?_
          refine lv_aload_n hx hb dL_law_390 rfl (lv_at hl 0 rfl) ?_
          refine lv_iload_n hx hb dL_law_391 rfl (lv_at hl 3 rfl) ?_
          refine lv_iconst (v := 1) hx hb dL_law_392 (by decide) ?_
          refine lv_iadd hx hb dL_law_393 ?_
          refine va_sld hx hb hX hbl hbA hI1.2.2.2.2.2 v1 dL_law_394 ?_
          refine lv_aload_n hx hb dL_law_395 rfl (lv_at hl 0 rfl) ?_
          refine lv_iload_n hx hb dL_law_396 rfl (lv_at hl 3 rfl) ?_
          refine lv_iconst (v := 2) hx hb dL_law_397 (by decide) ?_
          refine lv_iadd hx hb dL_law_398 ?_
          refine va_sld hx hb hX hbl hbA hI1.2.2.2.2.2 v2 dL_law_399 ?_
          refine lv_if_eq (tgt := 407) hx hb dL_law_400 (by decide) (fun _ => ?_) (fun hq => absurd hz1 hq)
          refine lv_iconst (v := 0) hx hb dL_law_407 (by decide) ?_
          refine lw_call (G1 := (l, D, qm, cy, aK, aV)) (G2 := (l, D, qc, cy, aK, aV)) (ci := 12) (M' := mX12_point) (h' := 5) (As := [.int (xs (x3 + 1).toNatClampNeg), .int (0 : Int32)]) (rest := [.long r]) hx hb hml hown hts hXm (LI.swap hI1) hl.1 mfX12_point mvX12_point rfl ll_49 dL_law_408 (kX12_point (l, D, qm, cy, aK, aV) _ _ _ _) hm1 (hO _ _ hR).2 ⟨Nat.le_of_ble_eq_true rfl, Nat.le_of_ble_eq_true rfl⟩ rfl rfl rfl (Nat.le_of_ble_eq_true rfl) ⟨Nat.le_of_ble_eq_true rfl, Nat.le_of_ble_eq_true rfl⟩ (fun H2 locs2 hI2 => ?_)
          refine W.lcmp hx hb dL_law_411 ?_
          rw [lw_cmp]
          refine lv_if_eq (tgt := 1111) hx hb dL_law_412 (by decide) (fun _ => ?_) (fun hq => absurd rfl hq)
          exact hE H2 locs2 σc1 σm1 (LI.swap hI2) hR1
        · skip
          obtain ⟨r, σc1, σm1, hc1, hm1, hR1⟩ := g7 σc σm (xs (x3 + 1).toNatClampNeg) (1 : Int32) (by decide) hR
          refine lv_aload_n hx hb dL_law_367 rfl (lv_at hl 1 rfl) ?_
          refine lv_aload_n hx hb dL_law_368 rfl (lv_at hl 0 rfl) ?_
          refine lv_iload_n hx hb dL_law_369 rfl (lv_at hl 3 rfl) ?_
          refine lv_iconst (v := 1) hx hb dL_law_370 (by decide) ?_
          refine lv_iadd hx hb dL_law_371 ?_
          refine va_sld hx hb hX hbl hbA hI.2.2.2.2.2 v1 dL_law_372 ?_
          refine lv_aload_n hx hb dL_law_373 rfl (lv_at hl 0 rfl) ?_
          refine lv_iload_n hx hb dL_law_374 rfl (lv_at hl 3 rfl) ?_
          refine lv_iconst (v := 2) hx hb dL_law_375 (by decide) ?_
          refine lv_iadd hx hb dL_law_376 ?_
          refine va_sld hx hb hX hbl hbA hI.2.2.2.2.2 v2 dL_law_377 ?_
          refine lv_if_eq (tgt := 385) hx hb dL_law_378 (by decide) (fun hq => absurd hq hz1) (fun _ => ?_)
          refine lv_iconst (v := 1) hx hb dL_law_381 (by decide) ?_
          refine lv_goto (tgt := 386) hx hb dL_law_382 (by decide) ?_
          refine lw_call (G1 := (l, D, qc, cy, aK, aV)) (G2 := (l, D, qm, cy, aK, aV)) (ci := 11) (M' := mX11_point) (h' := 5) (As := [.int (xs (x3 + 1).toNatClampNeg), .int (1 : Int32)]) (rest := []) hx hb hml hown hts hXc hI hl.1 mfX11_point mvX11_point rfl ll_45 dL_law_386 (kX11_point (l, D, qc, cy, aK, aV) _ _ _ _) hc1 (hO _ _ hR).1 ⟨Nat.le_of_ble_eq_true rfl, Nat.le_of_ble_eq_true rfl⟩ rfl rfl rfl (Nat.le_of_ble_eq_true rfl) ⟨Nat.le_of_ble_eq_true rfl, Nat.le_of_ble_eq_true rfl⟩ (fun H1 locs1 hI1 => ?_)
          refine lv_aload_n hx hb dL_law_389 rfl (lv_at hl 2 rfl) ?_
          refine lv_aload_n hx hb dL_law_390 rfl (lv_at hl 0 rfl) ?_
          refine lv_iload_n hx hb dL_law_391 rfl (lv_at hl 3 rfl) ?_
          refine lv_iconst (v := 1) hx hb dL_law_392 (by decide) ?_
          refine lv_iadd hx hb dL_law_393 ?_
          refine va_sld hx hb hX hbl hbA hI1.2.2.2.2.2 v1 dL_law_394 ?_
          refine lv_aload_n hx hb dL_law_395 rfl (lv_at hl 0 rfl) ?_
          refine lv_iload_n hx hb dL_law_396 rfl (lv_at hl 3 rfl) ?_
          refine lv_iconst (v := 2) hx hb dL_law_397 (by decide) ?_
          refine lv_iadd hx hb dL_law_398 ?_
          refine va_sld hx hb hX hbl hbA hI1.2.2.2.2.2 v2 dL_law_399 ?_
          refine lv_if_eq (tgt := 407) hx hb dL_law_400 (by decide) (fun hq => absurd hq hz1) (fun _ => ?_)
          refine lv_iconst (v := 1) hx hb dL_law_403 (by decide) ?_
          refine lv_goto (tgt := 408) hx hb dL_law_404 (by decide) ?_
          refine lw_call (G1 := (l, D, qm, cy, aK, aV)) (G2 := (l, D, qc, cy, aK, aV)) (ci := 12) (M' := mX12_point) (h' := 5) (As := [.int (xs (x3 + 1).toNatClampNeg), .int (1 : Int32)]) (rest := [.long r]) hx hb hml hown hts hXm (LI.swap hI1) hl.1 mfX12_point mvX12_point rfl ll_49 dL_law_408 (kX12_point (l, D, qm, cy, aK, aV) _ _ _ _) hm1 (hO _ _ hR).2 ⟨Nat.le_of_ble_eq_true rfl, Nat.le_of_ble_eq_true rfl⟩ rfl rfl rfl (Nat.le_of_ble_eq_true rfl) ⟨Nat.le_of_ble_eq_true rfl, Nat.le_of_ble_eq_true rfl⟩ (fun H2 locs2 hI2 => ?_)
          refine W.lcmp hx hb dL_law_411 ?_
          rw [lw_cmp]
          refine lv_if_eq (tgt := 1111) hx hb dL_law_412 (by decide) (fun _ => ?_) (fun hq => absurd rfl hq)
          exact hE H2 locs2 σc1 σm1 (LI.swap hI2) hR1
      by_cases hj8 : j = 8
      · subst hj8
        refine lv_tableIn (off := 384) (tgt := 417) hx hb dL_law_33 (by decide) (by decide) (by decide) (by decide) ?_
        obtain ⟨r, σc1, σm1, hc1, hm1, hR1⟩ := g8 σc σm   hR
        refine lv_aload_n hx hb dL_law_417 rfl (lv_at hl 1 rfl) ?_
        refine lw_call (G1 := (l, D, qc, cy, aK, aV)) (G2 := (l, D, qm, cy, aK, aV)) (ci := 11) (M' := mX11_stands) (h' := 6) (As := []) (rest := []) hx hb hml hown hts hXc hI hl.1 mfX11_stands mvX11_stands rfl ll_50 dL_law_418 (kX11_stands (l, D, qc, cy, aK, aV) _ _) hc1 (hO _ _ hR).1 ⟨Nat.le_of_ble_eq_true rfl, Nat.le_of_ble_eq_true rfl⟩ rfl rfl rfl (Nat.le_of_ble_eq_true rfl) ⟨Nat.le_of_ble_eq_true rfl, Nat.le_of_ble_eq_true rfl⟩ (fun H1 locs1 hI1 => ?_)
        refine lv_aload_n hx hb dL_law_421 rfl (lv_at hl 2 rfl) ?_
        refine lw_call (G1 := (l, D, qm, cy, aK, aV)) (G2 := (l, D, qc, cy, aK, aV)) (ci := 12) (M' := mX12_stands) (h' := 6) (As := []) (rest := [.int r]) hx hb hml hown hts hXm (LI.swap hI1) hl.1 mfX12_stands mvX12_stands rfl ll_54 dL_law_422 (kX12_stands (l, D, qm, cy, aK, aV) _ _) hm1 (hO _ _ hR).2 ⟨Nat.le_of_ble_eq_true rfl, Nat.le_of_ble_eq_true rfl⟩ rfl rfl rfl (Nat.le_of_ble_eq_true rfl) ⟨Nat.le_of_ble_eq_true rfl, Nat.le_of_ble_eq_true rfl⟩ (fun H2 locs2 hI2 => ?_)
        refine lv_icmp_eq (tgt := 1111) hx hb dL_law_425 (by decide) (fun _ => ?_) (fun hq => absurd rfl hq)
        exact hE H2 locs2 σc1 σm1 (LI.swap hI2) hR1
      by_cases hj9 : j = 9
      · subst hj9
        refine lv_tableIn (off := 397) (tgt := 430) hx hb dL_law_33 (by decide) (by decide) (by decide) (by decide) ?_
        obtain ⟨r, σc1, σm1, hc1, hm1, hR1⟩ := g9 σc σm (xs (x3 + 1).toNatClampNeg)  hR
        refine lv_aload_n hx hb dL_law_430 rfl (lv_at hl 1 rfl) ?_
        refine lv_aload_n hx hb dL_law_431 rfl (lv_at hl 0 rfl) ?_
        refine lv_iload_n hx hb dL_law_432 rfl (lv_at hl 3 rfl) ?_
        refine lv_iconst (v := 1) hx hb dL_law_433 (by decide) ?_
        refine lv_iadd hx hb dL_law_434 ?_
        refine va_sld hx hb hX hbl hbA hI.2.2.2.2.2 v1 dL_law_435 ?_
        refine lw_call (G1 := (l, D, qc, cy, aK, aV)) (G2 := (l, D, qm, cy, aK, aV)) (ci := 11) (M' := mX11_tips) (h' := 5) (As := [.int (xs (x3 + 1).toNatClampNeg)]) (rest := []) hx hb hml hown hts hXc hI hl.1 mfX11_tips mvX11_tips rfl ll_55 dL_law_436 (kX11_tips (l, D, qc, cy, aK, aV) _ _ _) hc1 (hO _ _ hR).1 ⟨Nat.le_of_ble_eq_true rfl, Nat.le_of_ble_eq_true rfl⟩ rfl rfl rfl (Nat.le_of_ble_eq_true rfl) ⟨Nat.le_of_ble_eq_true rfl, Nat.le_of_ble_eq_true rfl⟩ (fun H1 locs1 hI1 => ?_)
        refine lv_aload_n hx hb dL_law_439 rfl (lv_at hl 2 rfl) ?_
        refine lv_aload_n hx hb dL_law_440 rfl (lv_at hl 0 rfl) ?_
        refine lv_iload_n hx hb dL_law_441 rfl (lv_at hl 3 rfl) ?_
        refine lv_iconst (v := 1) hx hb dL_law_442 (by decide) ?_
        refine lv_iadd hx hb dL_law_443 ?_
        refine va_sld hx hb hX hbl hbA hI1.2.2.2.2.2 v1 dL_law_444 ?_
        refine lw_call (G1 := (l, D, qm, cy, aK, aV)) (G2 := (l, D, qc, cy, aK, aV)) (ci := 12) (M' := mX12_tips) (h' := 6) (As := [.int (xs (x3 + 1).toNatClampNeg)]) (rest := [.int r]) hx hb hml hown hts hXm (LI.swap hI1) hl.1 mfX12_tips mvX12_tips rfl ll_58 dL_law_445 (kX12_tips (l, D, qm, cy, aK, aV) _ _ _) hm1 (hO _ _ hR).2 ⟨Nat.le_of_ble_eq_true rfl, Nat.le_of_ble_eq_true rfl⟩ rfl rfl rfl (Nat.le_of_ble_eq_true rfl) ⟨Nat.le_of_ble_eq_true rfl, Nat.le_of_ble_eq_true rfl⟩ (fun H2 locs2 hI2 => ?_)
        refine lv_icmp_eq (tgt := 1111) hx hb dL_law_448 (by decide) (fun _ => ?_) (fun hq => absurd rfl hq)
        exact hE H2 locs2 σc1 σm1 (LI.swap hI2) hR1
      by_cases hj10 : j = 10
      · subst hj10
        refine lv_tableIn (off := 420) (tgt := 453) hx hb dL_law_33 (by decide) (by decide) (by decide) (by decide) ?_
        obtain ⟨r, σc1, σm1, hc1, hm1, hR1⟩ := g10 σc σm   hR
        refine lv_aload_n hx hb dL_law_453 rfl (lv_at hl 1 rfl) ?_
        refine lw_call (G1 := (l, D, qc, cy, aK, aV)) (G2 := (l, D, qm, cy, aK, aV)) (ci := 11) (M' := mX11_over) (h' := 3) (As := []) (rest := []) hx hb hml hown hts hXc hI hl.1 mfX11_over mvX11_over rfl ll_59 dL_law_454 (kX11_over (l, D, qc, cy, aK, aV) _ _) hc1 (hO _ _ hR).1 ⟨Nat.le_of_ble_eq_true rfl, Nat.le_of_ble_eq_true rfl⟩ rfl rfl rfl (Nat.le_of_ble_eq_true rfl) ⟨Nat.le_of_ble_eq_true rfl, Nat.le_of_ble_eq_true rfl⟩ (fun H1 locs1 hI1 => ?_)
        refine lv_aload_n hx hb dL_law_457 rfl (lv_at hl 2 rfl) ?_
        refine lw_call (G1 := (l, D, qm, cy, aK, aV)) (G2 := (l, D, qc, cy, aK, aV)) (ci := 12) (M' := mX12_over) (h' := 3) (As := []) (rest := [.int r]) hx hb hml hown hts hXm (LI.swap hI1) hl.1 mfX12_over mvX12_over rfl ll_62 dL_law_458 (kX12_over (l, D, qm, cy, aK, aV) _ _) hm1 (hO _ _ hR).2 ⟨Nat.le_of_ble_eq_true rfl, Nat.le_of_ble_eq_true rfl⟩ rfl rfl rfl (Nat.le_of_ble_eq_true rfl) ⟨Nat.le_of_ble_eq_true rfl, Nat.le_of_ble_eq_true rfl⟩ (fun H2 locs2 hI2 => ?_)
        refine lv_icmp_eq (tgt := 1111) hx hb dL_law_461 (by decide) (fun _ => ?_) (fun hq => absurd rfl hq)
        exact hE H2 locs2 σc1 σm1 (LI.swap hI2) hR1
      by_cases hj11 : j = 11
      · subst hj11
        refine lv_tableIn (off := 433) (tgt := 466) hx hb dL_law_33 (by decide) (by decide) (by decide) (by decide) ?_
        by_cases hz2 : (xs (x3 + 3).toNatClampNeg) = 0
        · skip
          obtain ⟨r, σc1, σm1, hc1, hm1, hR1⟩ := g11 σc σm (xs (x3 + 1).toNatClampNeg) (xs (x3 + 2).toNatClampNeg) (0 : Int32) (by decide) hR
          refine lv_aload_n hx hb dL_law_466 rfl (lv_at hl 1 rfl) ?_
          refine lv_aload_n hx hb dL_law_467 rfl (lv_at hl 0 rfl) ?_
          refine lv_iload_n hx hb dL_law_468 rfl (lv_at hl 3 rfl) ?_
          refine lv_iconst (v := 1) hx hb dL_law_469 (by decide) ?_
          refine lv_iadd hx hb dL_law_470 ?_
          refine va_sld hx hb hX hbl hbA hI.2.2.2.2.2 v1 dL_law_471 ?_
          refine lv_aload_n hx hb dL_law_472 rfl (lv_at hl 0 rfl) ?_
          refine lv_iload_n hx hb dL_law_473 rfl (lv_at hl 3 rfl) ?_
          refine lv_iconst (v := 2) hx hb dL_law_474 (by decide) ?_
          refine lv_iadd hx hb dL_law_475 ?_
          refine va_sld hx hb hX hbl hbA hI.2.2.2.2.2 v2 dL_law_476 ?_
          refine lv_aload_n hx hb dL_law_477 rfl (lv_at hl 0 rfl) ?_
          refine lv_iload_n hx hb dL_law_478 rfl (lv_at hl 3 rfl) ?_
          refine lv_iconst (v := 3) hx hb dL_law_479 (by decide) ?_
          refine lv_iadd hx hb dL_law_480 ?_
          refine va_sld hx hb hX hbl hbA hI.2.2.2.2.2 v3 dL_law_481 ?_
          refine lv_if_eq (tgt := 489) hx hb dL_law_482 (by decide) (fun _ => ?_) (fun hq => absurd hz2 hq)
          refine lv_iconst (v := 0) hx hb dL_law_489 (by decide) ?_
          refine lw_call (G1 := (l, D, qc, cy, aK, aV)) (G2 := (l, D, qm, cy, aK, aV)) (ci := 11) (M' := mX11_lay) (h' := 3) (As := [.int (xs (x3 + 1).toNatClampNeg), .int (xs (x3 + 2).toNatClampNeg), .int (0 : Int32)]) (rest := []) hx hb hml hown hts hXc hI hl.1 mfX11_lay mvX11_lay rfl ll_63 dL_law_490 (kX11_lay (l, D, qc, cy, aK, aV) _ _ _ _ _) hc1 (hO _ _ hR).1 ⟨Nat.le_of_ble_eq_true rfl, Nat.le_of_ble_eq_true rfl⟩ rfl rfl rfl (Nat.le_of_ble_eq_true rfl) ⟨Nat.le_of_ble_eq_true rfl, Nat.le_of_ble_eq_true rfl⟩ (fun H1 locs1 hI1 => ?_)
          refine lv_aload_n hx hb dL_law_493 rfl (lv_at hl 2 rfl) ?_
          refine lv_aload_n hx hb dL_law_494 rfl (lv_at hl 0 rfl) ?_
          refine lv_iload_n hx hb dL_law_495 rfl (lv_at hl 3 rfl) ?_
          refine lv_iconst (v := 1) hx hb dL_law_496 (by decide) ?_
          refine lv_iadd hx hb dL_law_497 ?_
          refine va_sld hx hb hX hbl hbA hI1.2.2.2.2.2 v1 dL_law_498 ?_
          refine lv_aload_n hx hb dL_law_499 rfl (lv_at hl 0 rfl) ?_
          refine lv_iload_n hx hb dL_law_500 rfl (lv_at hl 3 rfl) ?_
          refine lv_iconst (v := 2) hx hb dL_law_501 (by decide) ?_
          refine lv_iadd hx hb dL_law_502 ?_
          refine va_sld hx hb hX hbl hbA hI1.2.2.2.2.2 v2 dL_law_503 ?_
          refine lv_aload_n hx hb dL_law_504 rfl (lv_at hl 0 rfl) ?_
          refine lv_iload_n hx hb dL_law_505 rfl (lv_at hl 3 rfl) ?_
          refine lv_iconst (v := 3) hx hb dL_law_506 (by decide) ?_
          refine lv_iadd hx hb dL_law_507 ?_
          refine va_sld hx hb hX hbl hbA hI1.2.2.2.2.2 v3 dL_law_508 ?_
          refine lv_if_eq (tgt := 516) hx hb dL_law_509 (by decide) (fun _ => ?_) (fun hq => absurd hz2 hq)
          refine lv_iconst (v := 0) hx hb dL_law_516 (by decide) ?_
          refine lw_call (G1 := (l, D, qm, cy, aK, aV)) (G2 := (l, D, qc, cy, aK, aV)) (ci := 12) (M' := mX12_lay) (h' := 3) (As := [.int (xs (x3 + 1).toNatClampNeg), .int (xs (x3 + 2).toNatClampNeg), .int (0 : Int32)]) (rest := [.int r]) hx hb hml hown hts hXm (LI.swap hI1) hl.1 mfX12_lay mvX12_lay rfl ll_67 dL_law_517 (kX12_lay (l, D, qm, cy, aK, aV) _ _ _ _ _) hm1 (hO _ _ hR).2 ⟨Nat.le_of_ble_eq_true rfl, Nat.le_of_ble_eq_true rfl⟩ rfl rfl rfl (Nat.le_of_ble_eq_true rfl) ⟨Nat.le_of_ble_eq_true rfl, Nat.le_of_ble_eq_true rfl⟩ (fun H2 locs2 hI2 => ?_)
          refine lv_icmp_eq (tgt := 1111) hx hb dL_law_520 (by decide) (fun _ => ?_) (fun hq => absurd rfl hq)
          exact hE H2 locs2 σc1 σm1 (LI.swap hI2) hR1
        · skip
          obtain ⟨r, σc1, σm1, hc1, hm1, hR1⟩ := g11 σc σm (xs (x3 + 1).toNatClampNeg) (xs (x3 + 2).toNatClampNeg) (1 : Int32) (by decide) hR
          refine lv_aload_n hx hb dL_law_466 rfl (lv_at hl 1 rfl) ?_
          refine lv_aload_n hx hb dL_law_467 rfl (lv_at hl 0 rfl) ?_
          refine lv_iload_n hx hb dL_law_468 rfl (lv_at hl 3 rfl) ?_
          refine lv_iconst (v := 1) hx hb dL_law_469 (by decide) ?_
          refine lv_iadd hx hb dL_law_470 ?_
          refine va_sld hx hb hX hbl hbA hI.2.2.2.2.2 v1 dL_law_471 ?_
          refine lv_aload_n hx hb dL_law_472 rfl (lv_at hl 0 rfl) ?_
          refine lv_iload_n hx hb dL_law_473 rfl (lv_at hl 3 rfl) ?_
          refine lv_iconst (v := 2) hx hb dL_law_474 (by decide) ?_
          refine lv_iadd hx hb dL_law_475 ?_
          refine va_sld hx hb hX hbl hbA hI.2.2.2.2.2 v2 dL_law_476 ?_
          refine lv_aload_n hx hb dL_law_477 rfl (lv_at hl 0 rfl) ?_
          refine lv_iload_n hx hb dL_law_478 rfl (lv_at hl 3 rfl) ?_
          refine lv_iconst (v := 3) hx hb dL_law_479 (by decide) ?_
          refine lv_iadd hx hb dL_law_480 ?_
          refine va_sld hx hb hX hbl hbA hI.2.2.2.2.2 v3 dL_law_481 ?_
          refine lv_if_eq (tgt := 489) hx hb dL_law_482 (by decide) (fun hq => absurd hq hz2) (fun _ => ?_)
          refine lv_iconst (v := 1) hx hb dL_law_485 (by decide) ?_
          refine lv_goto (tgt := 490) hx hb dL_law_486 (by decide) ?_
          refine lw_call (G1 := (l, D, qc, cy, aK, aV)) (G2 := (l, D, qm, cy, aK, aV)) (ci := 11) (M' := mX11_lay) (h' := 3) (As := [.int (xs (x3 + 1).toNatClampNeg), .int (xs (x3 + 2).toNatClampNeg), .int (1 : Int32)]) (rest := []) hx hb hml hown hts hXc hI hl.1 mfX11_lay mvX11_lay rfl ll_63 dL_law_490 (kX11_lay (l, D, qc, cy, aK, aV) _ _ _ _ _) hc1 (hO _ _ hR).1 ⟨Nat.le_of_ble_eq_true rfl, Nat.le_of_ble_eq_true rfl⟩ rfl rfl rfl (Nat.le_of_ble_eq_true rfl) ⟨Nat.le_of_ble_eq_true rfl, Nat.le_of_ble_eq_true rfl⟩ (fun H1 locs1 hI1 => ?_)
          refine lv_aload_n hx hb dL_law_493 rfl (lv_at hl 2 rfl) ?_
          refine lv_aload_n hx hb dL_law_494 rfl (lv_at hl 0 rfl) ?_
          refine lv_iload_n hx hb dL_law_495 rfl (lv_at hl 3 rfl) ?_
          refine lv_iconst (v := 1) hx hb dL_law_496 (by decide) ?_
          refine lv_iadd hx hb dL_law_497 ?_
          refine va_sld hx hb hX hbl hbA hI1.2.2.2.2.2 v1 dL_law_498 ?_
          refine lv_aload_n hx hb dL_law_499 rfl (lv_at hl 0 rfl) ?_
          refine lv_iload_n hx hb dL_law_500 rfl (lv_at hl 3 rfl) ?_
          refine lv_iconst (v := 2) hx hb dL_law_501 (by decide) ?_
          refine lv_iadd hx hb dL_law_502 ?_
          refine va_sld hx hb hX hbl hbA hI1.2.2.2.2.2 v2 dL_law_503 ?_
          refine lv_aload_n hx hb dL_law_504 rfl (lv_at hl 0 rfl) ?_
          refine lv_iload_n hx hb dL_law_505 rfl (lv_at hl 3 rfl) ?_
          refine lv_iconst (v := 3) hx hb dL_law_506 (by decide) ?_
          refine lv_iadd hx hb dL_law_507 ?_
          refine va_sld hx hb hX hbl hbA hI1.2.2.2.2.2 v3 dL_law_508 ?_
          refine lv_if_eq (tgt := 516) hx hb dL_law_509 (by decide) (fun hq => absurd hq hz2) (fun _ => ?_)
          refine lv_iconst (v := 1) hx hb dL_law_512 (by decide) ?_
          refine lv_goto (tgt := 517) hx hb dL_law_513 (by decide) ?_
          refine lw_call (G1 := (l, D, qm, cy, aK, aV)) (G2 := (l, D, qc, cy, aK, aV)) (ci := 12) (M' := mX12_lay) (h' := 3) (As := [.int (xs (x3 + 1).toNatClampNeg), .int (xs (x3 + 2).toNatClampNeg), .int (1 : Int32)]) (rest := [.int r]) hx hb hml hown hts hXm (LI.swap hI1) hl.1 mfX12_lay mvX12_lay rfl ll_67 dL_law_517 (kX12_lay (l, D, qm, cy, aK, aV) _ _ _ _ _) hm1 (hO _ _ hR).2 ⟨Nat.le_of_ble_eq_true rfl, Nat.le_of_ble_eq_true rfl⟩ rfl rfl rfl (Nat.le_of_ble_eq_true rfl) ⟨Nat.le_of_ble_eq_true rfl, Nat.le_of_ble_eq_true rfl⟩ (fun H2 locs2 hI2 => ?_)
          refine lv_icmp_eq (tgt := 1111) hx hb dL_law_520 (by decide) (fun _ => ?_) (fun hq => absurd rfl hq)
          exact hE H2 locs2 σc1 σm1 (LI.swap hI2) hR1
      by_cases hj12 : j = 12
      · subst hj12
        refine lv_tableIn (off := 492) (tgt := 525) hx hb dL_law_33 (by decide) (by decide) (by decide) (by decide) ?_
        obtain ⟨r, σc1, σm1, hc1, hm1, hR1⟩ := g12 σc σm   hR
        refine lv_aload_n hx hb dL_law_525 rfl (lv_at hl 1 rfl) ?_
        refine lw_call (G1 := (l, D, qc, cy, aK, aV)) (G2 := (l, D, qm, cy, aK, aV)) (ci := 11) (M' := mX11_lift) (h' := 3) (As := []) (rest := []) hx hb hml hown hts hXc hI hl.1 mfX11_lift mvX11_lift rfl ll_68 dL_law_526 (kX11_lift (l, D, qc, cy, aK, aV) _ _) hc1 (hO _ _ hR).1 ⟨Nat.le_of_ble_eq_true rfl, Nat.le_of_ble_eq_true rfl⟩ rfl rfl rfl (Nat.le_of_ble_eq_true rfl) ⟨Nat.le_of_ble_eq_true rfl, Nat.le_of_ble_eq_true rfl⟩ (fun H1 locs1 hI1 => ?_)
        refine lv_aload_n hx hb dL_law_529 rfl (lv_at hl 2 rfl) ?_
        refine lw_call (G1 := (l, D, qm, cy, aK, aV)) (G2 := (l, D, qc, cy, aK, aV)) (ci := 12) (M' := mX12_lift) (h' := 2) (As := []) (rest := [.int r]) hx hb hml hown hts hXm (LI.swap hI1) hl.1 mfX12_lift mvX12_lift rfl ll_71 dL_law_530 (kX12_lift (l, D, qm, cy, aK, aV) _ _) hm1 (hO _ _ hR).2 ⟨Nat.le_of_ble_eq_true rfl, Nat.le_of_ble_eq_true rfl⟩ rfl rfl rfl (Nat.le_of_ble_eq_true rfl) ⟨Nat.le_of_ble_eq_true rfl, Nat.le_of_ble_eq_true rfl⟩ (fun H2 locs2 hI2 => ?_)
        refine lv_icmp_eq (tgt := 1111) hx hb dL_law_533 (by decide) (fun _ => ?_) (fun hq => absurd rfl hq)
        exact hE H2 locs2 σc1 σm1 (LI.swap hI2) hR1
      by_cases hj13 : j = 13
      · subst hj13
        refine lv_tableIn (off := 505) (tgt := 538) hx hb dL_law_33 (by decide) (by decide) (by decide) (by decide) ?_
        obtain ⟨r, σc1, σm1, hc1, hm1, hR1⟩ := g13 σc σm (xs (x3 + 1).toNatClampNeg) (xs (x3 + 2).toNatClampNeg)  hR
        refine lv_aload_n hx hb dL_law_538 rfl (lv_at hl 1 rfl) ?_
        refine lv_aload_n hx hb dL_law_539 rfl (lv_at hl 0 rfl) ?_
        refine lv_iload_n hx hb dL_law_540 rfl (lv_at hl 3 rfl) ?_
        refine lv_iconst (v := 1) hx hb dL_law_541 (by decide) ?_
        refine lv_iadd hx hb dL_law_542 ?_
        refine va_sld hx hb hX hbl hbA hI.2.2.2.2.2 v1 dL_law_543 ?_
        refine lv_aload_n hx hb dL_law_544 rfl (lv_at hl 0 rfl) ?_
        refine lv_iload_n hx hb dL_law_545 rfl (lv_at hl 3 rfl) ?_
        refine lv_iconst (v := 2) hx hb dL_law_546 (by decide) ?_
        refine lv_iadd hx hb dL_law_547 ?_
        refine va_sld hx hb hX hbl hbA hI.2.2.2.2.2 v2 dL_law_548 ?_
        refine lw_call (G1 := (l, D, qc, cy, aK, aV)) (G2 := (l, D, qm, cy, aK, aV)) (ci := 11) (M' := mX11_move) (h' := 3) (As := [.int (xs (x3 + 1).toNatClampNeg), .int (xs (x3 + 2).toNatClampNeg)]) (rest := []) hx hb hml hown hts hXc hI hl.1 mfX11_move mvX11_move rfl ll_72 dL_law_549 (kX11_move (l, D, qc, cy, aK, aV) _ _ _ _) hc1 (hO _ _ hR).1 ⟨Nat.le_of_ble_eq_true rfl, Nat.le_of_ble_eq_true rfl⟩ rfl rfl rfl (Nat.le_of_ble_eq_true rfl) ⟨Nat.le_of_ble_eq_true rfl, Nat.le_of_ble_eq_true rfl⟩ (fun H1 locs1 hI1 => ?_)
        refine lv_aload_n hx hb dL_law_552 rfl (lv_at hl 2 rfl) ?_
        refine lv_aload_n hx hb dL_law_553 rfl (lv_at hl 0 rfl) ?_
        refine lv_iload_n hx hb dL_law_554 rfl (lv_at hl 3 rfl) ?_
        refine lv_iconst (v := 1) hx hb dL_law_555 (by decide) ?_
        refine lv_iadd hx hb dL_law_556 ?_
        refine va_sld hx hb hX hbl hbA hI1.2.2.2.2.2 v1 dL_law_557 ?_
        refine lv_aload_n hx hb dL_law_558 rfl (lv_at hl 0 rfl) ?_
        refine lv_iload_n hx hb dL_law_559 rfl (lv_at hl 3 rfl) ?_
        refine lv_iconst (v := 2) hx hb dL_law_560 (by decide) ?_
        refine lv_iadd hx hb dL_law_561 ?_
        refine va_sld hx hb hX hbl hbA hI1.2.2.2.2.2 v2 dL_law_562 ?_
        refine lw_call (G1 := (l, D, qm, cy, aK, aV)) (G2 := (l, D, qc, cy, aK, aV)) (ci := 12) (M' := mX12_move) (h' := 3) (As := [.int (xs (x3 + 1).toNatClampNeg), .int (xs (x3 + 2).toNatClampNeg)]) (rest := [.int r]) hx hb hml hown hts hXm (LI.swap hI1) hl.1 mfX12_move mvX12_move rfl ll_76 dL_law_563 (kX12_move (l, D, qm, cy, aK, aV) _ _ _ _) hm1 (hO _ _ hR).2 ⟨Nat.le_of_ble_eq_true rfl, Nat.le_of_ble_eq_true rfl⟩ rfl rfl rfl (Nat.le_of_ble_eq_true rfl) ⟨Nat.le_of_ble_eq_true rfl, Nat.le_of_ble_eq_true rfl⟩ (fun H2 locs2 hI2 => ?_)
        refine lv_icmp_eq (tgt := 1111) hx hb dL_law_566 (by decide) (fun _ => ?_) (fun hq => absurd rfl hq)
        exact hE H2 locs2 σc1 σm1 (LI.swap hI2) hR1
      by_cases hj14 : j = 14
      · subst hj14
        refine lv_tableIn (off := 538) (tgt := 571) hx hb dL_law_33 (by decide) (by decide) (by decide) (by decide) ?_
        obtain ⟨r, σc1, σm1, hc1, hm1, hR1⟩ := g14 σc σm   hR
        refine lv_aload_n hx hb dL_law_571 rfl (lv_at hl 1 rfl) ?_
        refine lw_call (G1 := (l, D, qc, cy, aK, aV)) (G2 := (l, D, qm, cy, aK, aV)) (ci := 11) (M' := mX11_undo) (h' := 4) (As := []) (rest := []) hx hb hml hown hts hXc hI hl.1 mfX11_undo mvX11_undo rfl ll_77 dL_law_572 (kX11_undo (l, D, qc, cy, aK, aV) _ _) hc1 (hO _ _ hR).1 ⟨Nat.le_of_ble_eq_true rfl, Nat.le_of_ble_eq_true rfl⟩ rfl rfl rfl (Nat.le_of_ble_eq_true rfl) ⟨Nat.le_of_ble_eq_true rfl, Nat.le_of_ble_eq_true rfl⟩ (fun H1 locs1 hI1 => ?_)
        refine lv_aload_n hx hb dL_law_575 rfl (lv_at hl 2 rfl) ?_
        refine lw_call (G1 := (l, D, qm, cy, aK, aV)) (G2 := (l, D, qc, cy, aK, aV)) (ci := 12) (M' := mX12_undo) (h' := 1) (As := []) (rest := [.int r]) hx hb hml hown hts hXm (LI.swap hI1) hl.1 mfX12_undo mvX12_undo rfl ll_80 dL_law_576 (kX12_undo (l, D, qm, cy, aK, aV) _ _) hm1 (hO _ _ hR).2 ⟨Nat.le_of_ble_eq_true rfl, Nat.le_of_ble_eq_true rfl⟩ rfl rfl rfl (Nat.le_of_ble_eq_true rfl) ⟨Nat.le_of_ble_eq_true rfl, Nat.le_of_ble_eq_true rfl⟩ (fun H2 locs2 hI2 => ?_)
        refine lv_icmp_eq (tgt := 1111) hx hb dL_law_579 (by decide) (fun _ => ?_) (fun hq => absurd rfl hq)
        exact hE H2 locs2 σc1 σm1 (LI.swap hI2) hR1
      by_cases hj15 : j = 15
      · subst hj15
        refine lv_tableIn (off := 551) (tgt := 584) hx hb dL_law_33 (by decide) (by decide) (by decide) (by decide) ?_
        obtain ⟨r, σc1, σm1, hc1, hm1, hR1⟩ := g15 σc σm (xs (x3 + 1).toNatClampNeg) (xs (x3 + 2).toNatClampNeg)  hR
        refine lv_aload_n hx hb dL_law_584 rfl (lv_at hl 1 rfl) ?_
        refine lv_aload_n hx hb dL_law_585 rfl (lv_at hl 0 rfl) ?_
        refine lv_iload_n hx hb dL_law_586 rfl (lv_at hl 3 rfl) ?_
        refine lv_iconst (v := 1) hx hb dL_law_587 (by decide) ?_
        refine lv_iadd hx hb dL_law_588 ?_
        refine va_sld hx hb hX hbl hbA hI.2.2.2.2.2 v1 dL_law_589 ?_
        refine lv_aload_n hx hb dL_law_590 rfl (lv_at hl 0 rfl) ?_
        refine lv_iload_n hx hb dL_law_591 rfl (lv_at hl 3 rfl) ?_
        refine lv_iconst (v := 2) hx hb dL_law_592 (by decide) ?_
        refine lv_iadd hx hb dL_law_593 ?_
        refine va_sld hx hb hX hbl hbA hI.2.2.2.2.2 v2 dL_law_594 ?_
        refine lw_call (G1 := (l, D, qc, cy, aK, aV)) (G2 := (l, D, qm, cy, aK, aV)) (ci := 11) (M' := mX11_bears) (h' := 6) (As := [.int (xs (x3 + 1).toNatClampNeg), .int (xs (x3 + 2).toNatClampNeg)]) (rest := []) hx hb hml hown hts hXc hI hl.1 mfX11_bears mvX11_bears rfl ll_81 dL_law_595 (kX11_bears (l, D, qc, cy, aK, aV) _ _ _ _) hc1 (hO _ _ hR).1 ⟨Nat.le_of_ble_eq_true rfl, Nat.le_of_ble_eq_true rfl⟩ rfl rfl rfl (Nat.le_of_ble_eq_true rfl) ⟨Nat.le_of_ble_eq_true rfl, Nat.le_of_ble_eq_true rfl⟩ (fun H1 locs1 hI1 => ?_)
        refine lv_aload_n hx hb dL_law_598 rfl (lv_at hl 2 rfl) ?_
        refine lv_aload_n hx hb dL_law_599 rfl (lv_at hl 0 rfl) ?_
        refine lv_iload_n hx hb dL_law_600 rfl (lv_at hl 3 rfl) ?_
        refine lv_iconst (v := 1) hx hb dL_law_601 (by decide) ?_
        refine lv_iadd hx hb dL_law_602 ?_
        refine va_sld hx hb hX hbl hbA hI1.2.2.2.2.2 v1 dL_law_603 ?_
        refine lv_aload_n hx hb dL_law_604 rfl (lv_at hl 0 rfl) ?_
        refine lv_iload_n hx hb dL_law_605 rfl (lv_at hl 3 rfl) ?_
        refine lv_iconst (v := 2) hx hb dL_law_606 (by decide) ?_
        refine lv_iadd hx hb dL_law_607 ?_
        refine va_sld hx hb hX hbl hbA hI1.2.2.2.2.2 v2 dL_law_608 ?_
        refine lw_call (G1 := (l, D, qm, cy, aK, aV)) (G2 := (l, D, qc, cy, aK, aV)) (ci := 12) (M' := mX12_bears) (h' := 6) (As := [.int (xs (x3 + 1).toNatClampNeg), .int (xs (x3 + 2).toNatClampNeg)]) (rest := [.int r]) hx hb hml hown hts hXm (LI.swap hI1) hl.1 mfX12_bears mvX12_bears rfl ll_84 dL_law_609 (kX12_bears (l, D, qm, cy, aK, aV) _ _ _ _) hm1 (hO _ _ hR).2 ⟨Nat.le_of_ble_eq_true rfl, Nat.le_of_ble_eq_true rfl⟩ rfl rfl rfl (Nat.le_of_ble_eq_true rfl) ⟨Nat.le_of_ble_eq_true rfl, Nat.le_of_ble_eq_true rfl⟩ (fun H2 locs2 hI2 => ?_)
        refine lv_icmp_eq (tgt := 1111) hx hb dL_law_612 (by decide) (fun _ => ?_) (fun hq => absurd rfl hq)
        exact hE H2 locs2 σc1 σm1 (LI.swap hI2) hR1
      by_cases hj16 : j = 16
      · subst hj16
        refine lv_tableIn (off := 584) (tgt := 617) hx hb dL_law_33 (by decide) (by decide) (by decide) (by decide) ?_
        obtain ⟨r, σc1, σm1, hc1, hm1, hR1⟩ := g16 σc σm (xs (x3 + 1).toNatClampNeg) (xs (x3 + 2).toNatClampNeg)  hR
        refine lv_aload_n hx hb dL_law_617 rfl (lv_at hl 1 rfl) ?_
        refine lv_aload_n hx hb dL_law_618 rfl (lv_at hl 0 rfl) ?_
        refine lv_iload_n hx hb dL_law_619 rfl (lv_at hl 3 rfl) ?_
        refine lv_iconst (v := 1) hx hb dL_law_620 (by decide) ?_
        refine lv_iadd hx hb dL_law_621 ?_
        refine va_sld hx hb hX hbl hbA hI.2.2.2.2.2 v1 dL_law_622 ?_
        refine lv_aload_n hx hb dL_law_623 rfl (lv_at hl 0 rfl) ?_
        refine lv_iload_n hx hb dL_law_624 rfl (lv_at hl 3 rfl) ?_
        refine lv_iconst (v := 2) hx hb dL_law_625 (by decide) ?_
        refine lv_iadd hx hb dL_law_626 ?_
        refine va_sld hx hb hX hbl hbA hI.2.2.2.2.2 v2 dL_law_627 ?_
        refine lw_call (G1 := (l, D, qc, cy, aK, aV)) (G2 := (l, D, qm, cy, aK, aV)) (ci := 11) (M' := mX11_holds) (h' := 6) (As := [.int (xs (x3 + 1).toNatClampNeg), .int (xs (x3 + 2).toNatClampNeg)]) (rest := []) hx hb hml hown hts hXc hI hl.1 mfX11_holds mvX11_holds rfl ll_85 dL_law_628 (kX11_holds (l, D, qc, cy, aK, aV) _ _ _ _) hc1 (hO _ _ hR).1 ⟨Nat.le_of_ble_eq_true rfl, Nat.le_of_ble_eq_true rfl⟩ rfl rfl rfl (Nat.le_of_ble_eq_true rfl) ⟨Nat.le_of_ble_eq_true rfl, Nat.le_of_ble_eq_true rfl⟩ (fun H1 locs1 hI1 => ?_)
        refine lv_aload_n hx hb dL_law_631 rfl (lv_at hl 2 rfl) ?_
        refine lv_aload_n hx hb dL_law_632 rfl (lv_at hl 0 rfl) ?_
        refine lv_iload_n hx hb dL_law_633 rfl (lv_at hl 3 rfl) ?_
        refine lv_iconst (v := 1) hx hb dL_law_634 (by decide) ?_
        refine lv_iadd hx hb dL_law_635 ?_
        refine va_sld hx hb hX hbl hbA hI1.2.2.2.2.2 v1 dL_law_636 ?_
        refine lv_aload_n hx hb dL_law_637 rfl (lv_at hl 0 rfl) ?_
        refine lv_iload_n hx hb dL_law_638 rfl (lv_at hl 3 rfl) ?_
        refine lv_iconst (v := 2) hx hb dL_law_639 (by decide) ?_
        refine lv_iadd hx hb dL_law_640 ?_
        refine va_sld hx hb hX hbl hbA hI1.2.2.2.2.2 v2 dL_law_641 ?_
        refine lw_call (G1 := (l, D, qm, cy, aK, aV)) (G2 := (l, D, qc, cy, aK, aV)) (ci := 12) (M' := mX12_holds) (h' := 6) (As := [.int (xs (x3 + 1).toNatClampNeg), .int (xs (x3 + 2).toNatClampNeg)]) (rest := [.int r]) hx hb hml hown hts hXm (LI.swap hI1) hl.1 mfX12_holds mvX12_holds rfl ll_88 dL_law_642 (kX12_holds (l, D, qm, cy, aK, aV) _ _ _ _) hm1 (hO _ _ hR).2 ⟨Nat.le_of_ble_eq_true rfl, Nat.le_of_ble_eq_true rfl⟩ rfl rfl rfl (Nat.le_of_ble_eq_true rfl) ⟨Nat.le_of_ble_eq_true rfl, Nat.le_of_ble_eq_true rfl⟩ (fun H2 locs2 hI2 => ?_)
        refine lv_icmp_eq (tgt := 1111) hx hb dL_law_645 (by decide) (fun _ => ?_) (fun hq => absurd rfl hq)
        exact hE H2 locs2 σc1 σm1 (LI.swap hI2) hR1
      by_cases hj17 : j = 17
      · subst hj17
        refine lv_tableIn (off := 617) (tgt := 650) hx hb dL_law_33 (by decide) (by decide) (by decide) (by decide) ?_
        obtain ⟨r, σc1, σm1, hc1, hm1, hR1⟩ := g17 σc σm (xs (x3 + 1).toNatClampNeg)  hR
        refine lv_aload_n hx hb dL_law_650 rfl (lv_at hl 1 rfl) ?_
        refine lv_aload_n hx hb dL_law_651 rfl (lv_at hl 0 rfl) ?_
        refine lv_iload_n hx hb dL_law_652 rfl (lv_at hl 3 rfl) ?_
        refine lv_iconst (v := 1) hx hb dL_law_653 (by decide) ?_
        refine lv_iadd hx hb dL_law_654 ?_
        refine va_sld hx hb hX hbl hbA hI.2.2.2.2.2 v1 dL_law_655 ?_
        refine lw_call (G1 := (l, D, qc, cy, aK, aV)) (G2 := (l, D, qm, cy, aK, aV)) (ci := 11) (M' := mX11_pushed) (h' := 6) (As := [.int (xs (x3 + 1).toNatClampNeg)]) (rest := []) hx hb hml hown hts hXc hI hl.1 mfX11_pushed mvX11_pushed rfl ll_89 dL_law_656 (kX11_pushed (l, D, qc, cy, aK, aV) _ _ _) hc1 (hO _ _ hR).1 ⟨Nat.le_of_ble_eq_true rfl, Nat.le_of_ble_eq_true rfl⟩ rfl rfl rfl (Nat.le_of_ble_eq_true rfl) ⟨Nat.le_of_ble_eq_true rfl, Nat.le_of_ble_eq_true rfl⟩ (fun H1 locs1 hI1 => ?_)
        refine lv_aload_n hx hb dL_law_659 rfl (lv_at hl 2 rfl) ?_
        refine lv_aload_n hx hb dL_law_660 rfl (lv_at hl 0 rfl) ?_
        refine lv_iload_n hx hb dL_law_661 rfl (lv_at hl 3 rfl) ?_
        refine lv_iconst (v := 1) hx hb dL_law_662 (by decide) ?_
        refine lv_iadd hx hb dL_law_663 ?_
        refine va_sld hx hb hX hbl hbA hI1.2.2.2.2.2 v1 dL_law_664 ?_
        refine lw_call (G1 := (l, D, qm, cy, aK, aV)) (G2 := (l, D, qc, cy, aK, aV)) (ci := 12) (M' := mX12_pushed) (h' := 6) (As := [.int (xs (x3 + 1).toNatClampNeg)]) (rest := [.int r]) hx hb hml hown hts hXm (LI.swap hI1) hl.1 mfX12_pushed mvX12_pushed rfl ll_92 dL_law_665 (kX12_pushed (l, D, qm, cy, aK, aV) _ _ _) hm1 (hO _ _ hR).2 ⟨Nat.le_of_ble_eq_true rfl, Nat.le_of_ble_eq_true rfl⟩ rfl rfl rfl (Nat.le_of_ble_eq_true rfl) ⟨Nat.le_of_ble_eq_true rfl, Nat.le_of_ble_eq_true rfl⟩ (fun H2 locs2 hI2 => ?_)
        refine lv_icmp_eq (tgt := 1111) hx hb dL_law_668 (by decide) (fun _ => ?_) (fun hq => absurd rfl hq)
        exact hE H2 locs2 σc1 σm1 (LI.swap hI2) hR1
      by_cases hj18 : j = 18
      · subst hj18
        refine lv_tableIn (off := 640) (tgt := 673) hx hb dL_law_33 (by decide) (by decide) (by decide) (by decide) ?_
        obtain ⟨r, σc1, σm1, hc1, hm1, hR1⟩ := g18 σc σm   hR
        refine lv_aload_n hx hb dL_law_673 rfl (lv_at hl 1 rfl) ?_
        refine lw_call (G1 := (l, D, qc, cy, aK, aV)) (G2 := (l, D, qm, cy, aK, aV)) (ci := 11) (M' := mX11_takings) (h' := 6) (As := []) (rest := []) hx hb hml hown hts hXc hI hl.1 mfX11_takings mvX11_takings rfl ll_93 dL_law_674 (kX11_takings (l, D, qc, cy, aK, aV) _ _) hc1 (hO _ _ hR).1 ⟨Nat.le_of_ble_eq_true rfl, Nat.le_of_ble_eq_true rfl⟩ rfl rfl rfl (Nat.le_of_ble_eq_true rfl) ⟨Nat.le_of_ble_eq_true rfl, Nat.le_of_ble_eq_true rfl⟩ (fun H1 locs1 hI1 => ?_)
        refine lv_aload_n hx hb dL_law_677 rfl (lv_at hl 2 rfl) ?_
        refine lw_call (G1 := (l, D, qm, cy, aK, aV)) (G2 := (l, D, qc, cy, aK, aV)) (ci := 12) (M' := mX12_takings) (h' := 6) (As := []) (rest := [.int r]) hx hb hml hown hts hXm (LI.swap hI1) hl.1 mfX12_takings mvX12_takings rfl ll_96 dL_law_678 (kX12_takings (l, D, qm, cy, aK, aV) _ _) hm1 (hO _ _ hR).2 ⟨Nat.le_of_ble_eq_true rfl, Nat.le_of_ble_eq_true rfl⟩ rfl rfl rfl (Nat.le_of_ble_eq_true rfl) ⟨Nat.le_of_ble_eq_true rfl, Nat.le_of_ble_eq_true rfl⟩ (fun H2 locs2 hI2 => ?_)
        refine lv_icmp_eq (tgt := 1111) hx hb dL_law_681 (by decide) (fun _ => ?_) (fun hq => absurd rfl hq)
        exact hE H2 locs2 σc1 σm1 (LI.swap hI2) hR1
      by_cases hj19 : j = 19
      · subst hj19
        refine lv_tableIn (off := 653) (tgt := 686) hx hb dL_law_33 (by decide) (by decide) (by decide) (by decide) ?_
        by_cases hz1 : (xs (x3 + 2).toNatClampNeg) = 0
        · skip
          obtain ⟨r, σc1, σm1, hc1, hm1, hR1⟩ := g19 σc σm (xs (x3 + 1).toNatClampNeg) (0 : Int32) (by decide) hR
          refine lv_aload_n hx hb dL_law_686 rfl (lv_at hl 1 rfl) ?_
          refine lv_aload_n hx hb dL_law_687 rfl (lv_at hl 0 rfl) ?_
          refine lv_iload_n hx hb dL_law_688 rfl (lv_at hl 3 rfl) ?_
          refine lv_iconst (v := 1) hx hb dL_law_689 (by decide) ?_
          refine lv_iadd hx hb dL_law_690 ?_
          refine va_sld hx hb hX hbl hbA hI.2.2.2.2.2 v1 dL_law_691 ?_
          refine lv_aload_n hx hb dL_law_692 rfl (lv_at hl 0 rfl) ?_
          refine lv_iload_n hx hb dL_law_693 rfl (lv_at hl 3 rfl) ?_
          refine lv_iconst (v := 2) hx hb dL_law_694 (by decide) ?_
          refine lv_iadd hx hb dL_law_695 ?_
          refine va_sld hx hb hX hbl hbA hI.2.2.2.2.2 v2 dL_law_696 ?_
          refine lv_if_eq (tgt := 704) hx hb dL_law_697 (by decide) (fun _ => ?_) (fun hq => absurd hz1 hq)
          refine lv_iconst (v := 0) hx hb dL_law_704 (by decide) ?_
          refine lw_call (G1 := (l, D, qc, cy, aK, aV)) (G2 := (l, D, qm, cy, aK, aV)) (ci := 11) (M' := mX11_slides) (h' := 6) (As := [.int (xs (x3 + 1).toNatClampNeg), .int (0 : Int32)]) (rest := []) hx hb hml hown hts hXc hI hl.1 mfX11_slides mvX11_slides rfl ll_97 dL_law_705 (kX11_slides (l, D, qc, cy, aK, aV) _ _ _ _) hc1 (hO _ _ hR).1 ⟨Nat.le_of_ble_eq_true rfl, Nat.le_of_ble_eq_true rfl⟩ rfl rfl rfl (Nat.le_of_ble_eq_true rfl) ⟨Nat.le_of_ble_eq_true rfl, Nat.le_of_ble_eq_true rfl⟩ (fun H1 locs1 hI1 => ?_)
          refine lv_aload_n hx hb dL_law_708 rfl (lv_at hl 2 rfl) ?_
          refine lv_aload_n hx hb dL_law_709 rfl (lv_at hl 0 rfl) ?_
          refine lv_iload_n hx hb dL_law_710 rfl (lv_at hl 3 rfl) ?_
          refine lv_iconst (v := 1) hx hb dL_law_711 (by decide) ?_
          refine lv_iadd hx hb dL_law_712 ?_
          refine va_sld hx hb hX hbl hbA hI1.2.2.2.2.2 v1 dL_law_713 ?_
          refine lv_aload_n hx hb dL_law_714 rfl (lv_at hl 0 rfl) ?_
          refine lv_iload_n hx hb dL_law_715 rfl (lv_at hl 3 rfl) ?_
          refine lv_iconst (v := 2) hx hb dL_law_716 (by decide) ?_
          refine lv_iadd hx hb dL_law_717 ?_
          refine va_sld hx hb hX hbl hbA hI1.2.2.2.2.2 v2 dL_law_718 ?_
          refine lv_if_eq (tgt := 726) hx hb dL_law_719 (by decide) (fun _ => ?_) (fun hq => absurd hz1 hq)
          refine lv_iconst (v := 0) hx hb dL_law_726 (by decide) ?_
          refine lw_call (G1 := (l, D, qm, cy, aK, aV)) (G2 := (l, D, qc, cy, aK, aV)) (ci := 12) (M' := mX12_slides) (h' := 6) (As := [.int (xs (x3 + 1).toNatClampNeg), .int (0 : Int32)]) (rest := [.int r]) hx hb hml hown hts hXm (LI.swap hI1) hl.1 mfX12_slides mvX12_slides rfl ll_101 dL_law_727 (kX12_slides (l, D, qm, cy, aK, aV) _ _ _ _) hm1 (hO _ _ hR).2 ⟨Nat.le_of_ble_eq_true rfl, Nat.le_of_ble_eq_true rfl⟩ rfl rfl rfl (Nat.le_of_ble_eq_true rfl) ⟨Nat.le_of_ble_eq_true rfl, Nat.le_of_ble_eq_true rfl⟩ (fun H2 locs2 hI2 => ?_)
          refine lv_icmp_eq (tgt := 1111) hx hb dL_law_730 (by decide) (fun _ => ?_) (fun hq => absurd rfl hq)
          exact hE H2 locs2 σc1 σm1 (LI.swap hI2) hR1
        · skip
          obtain ⟨r, σc1, σm1, hc1, hm1, hR1⟩ := g19 σc σm (xs (x3 + 1).toNatClampNeg) (1 : Int32) (by decide) hR
          refine lv_aload_n hx hb dL_law_686 rfl (lv_at hl 1 rfl) ?_
          refine lv_aload_n hx hb dL_law_687 rfl (lv_at hl 0 rfl) ?_
          refine lv_iload_n hx hb dL_law_688 rfl (lv_at hl 3 rfl) ?_
          refine lv_iconst (v := 1) hx hb dL_law_689 (by decide) ?_
          refine lv_iadd hx hb dL_law_690 ?_
          refine va_sld hx hb hX hbl hbA hI.2.2.2.2.2 v1 dL_law_691 ?_
          refine lv_aload_n hx hb dL_law_692 rfl (lv_at hl 0 rfl) ?_
          refine lv_iload_n hx hb dL_law_693 rfl (lv_at hl 3 rfl) ?_
          refine lv_iconst (v := 2) hx hb dL_law_694 (by decide) ?_
          refine lv_iadd hx hb dL_law_695 ?_
          refine va_sld hx hb hX hbl hbA hI.2.2.2.2.2 v2 dL_law_696 ?_
          refine lv_if_eq (tgt := 704) hx hb dL_law_697 (by decide) (fun hq => absurd hq hz1) (fun _ => ?_)
          refine lv_iconst (v := 1) hx hb dL_law_700 (by decide) ?_
          refine lv_goto (tgt := 705) hx hb dL_law_701 (by decide) ?_
          refine lw_call (G1 := (l, D, qc, cy, aK, aV)) (G2 := (l, D, qm, cy, aK, aV)) (ci := 11) (M' := mX11_slides) (h' := 6) (As := [.int (xs (x3 + 1).toNatClampNeg), .int (1 : Int32)]) (rest := []) hx hb hml hown hts hXc hI hl.1 mfX11_slides mvX11_slides rfl ll_97 dL_law_705 (kX11_slides (l, D, qc, cy, aK, aV) _ _ _ _) hc1 (hO _ _ hR).1 ⟨Nat.le_of_ble_eq_true rfl, Nat.le_of_ble_eq_true rfl⟩ rfl rfl rfl (Nat.le_of_ble_eq_true rfl) ⟨Nat.le_of_ble_eq_true rfl, Nat.le_of_ble_eq_true rfl⟩ (fun H1 locs1 hI1 => ?_)
          refine lv_aload_n hx hb dL_law_708 rfl (lv_at hl 2 rfl) ?_
          refine lv_aload_n hx hb dL_law_709 rfl (lv_at hl 0 rfl) ?_
          refine lv_iload_n hx hb dL_law_710 rfl (lv_at hl 3 rfl) ?_
          refine lv_iconst (v := 1) hx hb dL_law_711 (by decide) ?_
          refine lv_iadd hx hb dL_law_712 ?_
          refine va_sld hx hb hX hbl hbA hI1.2.2.2.2.2 v1 dL_law_713 ?_
          refine lv_aload_n hx hb dL_law_714 rfl (lv_at hl 0 rfl) ?_
          refine lv_iload_n hx hb dL_law_715 rfl (lv_at hl 3 rfl) ?_
          refine lv_iconst (v := 2) hx hb dL_law_716 (by decide) ?_
          refine lv_iadd hx hb dL_law_717 ?_
          refine va_sld hx hb hX hbl hbA hI1.2.2.2.2.2 v2 dL_law_718 ?_
          refine lv_if_eq (tgt := 726) hx hb dL_law_719 (by decide) (fun hq => absurd hq hz1) (fun _ => ?_)
          refine lv_iconst (v := 1) hx hb dL_law_722 (by decide) ?_
          refine lv_goto (tgt := 727) hx hb dL_law_723 (by decide) ?_
          refine lw_call (G1 := (l, D, qm, cy, aK, aV)) (G2 := (l, D, qc, cy, aK, aV)) (ci := 12) (M' := mX12_slides) (h' := 6) (As := [.int (xs (x3 + 1).toNatClampNeg), .int (1 : Int32)]) (rest := [.int r]) hx hb hml hown hts hXm (LI.swap hI1) hl.1 mfX12_slides mvX12_slides rfl ll_101 dL_law_727 (kX12_slides (l, D, qm, cy, aK, aV) _ _ _ _) hm1 (hO _ _ hR).2 ⟨Nat.le_of_ble_eq_true rfl, Nat.le_of_ble_eq_true rfl⟩ rfl rfl rfl (Nat.le_of_ble_eq_true rfl) ⟨Nat.le_of_ble_eq_true rfl, Nat.le_of_ble_eq_true rfl⟩ (fun H2 locs2 hI2 => ?_)
          refine lv_icmp_eq (tgt := 1111) hx hb dL_law_730 (by decide) (fun _ => ?_) (fun hq => absurd rfl hq)
          exact hE H2 locs2 σc1 σm1 (LI.swap hI2) hR1
      by_cases hj20 : j = 20
      · subst hj20
        refine lv_tableIn (off := 702) (tgt := 735) hx hb dL_law_33 (by decide) (by decide) (by decide) (by decide) ?_
        obtain ⟨r, σc1, σm1, hc1, hm1, hR1⟩ := g20 σc σm (xs (x3 + 1).toNatClampNeg)  hR
        refine lv_aload_n hx hb dL_law_735 rfl (lv_at hl 1 rfl) ?_
        refine lv_aload_n hx hb dL_law_736 rfl (lv_at hl 0 rfl) ?_
        refine lv_iload_n hx hb dL_law_737 rfl (lv_at hl 3 rfl) ?_
        refine lv_iconst (v := 1) hx hb dL_law_738 (by decide) ?_
        refine lv_iadd hx hb dL_law_739 ?_
        refine va_sld hx hb hX hbl hbA hI.2.2.2.2.2 v1 dL_law_740 ?_
        refine lw_call (G1 := (l, D, qc, cy, aK, aV)) (G2 := (l, D, qm, cy, aK, aV)) (ci := 11) (M' := mX11_out) (h' := 6) (As := [.int (xs (x3 + 1).toNatClampNeg)]) (rest := []) hx hb hml hown hts hXc hI hl.1 mfX11_out mvX11_out rfl ll_102 dL_law_741 (kX11_out (l, D, qc, cy, aK, aV) _ _ _) hc1 (hO _ _ hR).1 ⟨Nat.le_of_ble_eq_true rfl, Nat.le_of_ble_eq_true rfl⟩ rfl rfl rfl (Nat.le_of_ble_eq_true rfl) ⟨Nat.le_of_ble_eq_true rfl, Nat.le_of_ble_eq_true rfl⟩ (fun H1 locs1 hI1 => ?_)
        refine lv_aload_n hx hb dL_law_744 rfl (lv_at hl 2 rfl) ?_
        refine lv_aload_n hx hb dL_law_745 rfl (lv_at hl 0 rfl) ?_
        refine lv_iload_n hx hb dL_law_746 rfl (lv_at hl 3 rfl) ?_
        refine lv_iconst (v := 1) hx hb dL_law_747 (by decide) ?_
        refine lv_iadd hx hb dL_law_748 ?_
        refine va_sld hx hb hX hbl hbA hI1.2.2.2.2.2 v1 dL_law_749 ?_
        refine lw_call (G1 := (l, D, qm, cy, aK, aV)) (G2 := (l, D, qc, cy, aK, aV)) (ci := 12) (M' := mX12_out) (h' := 6) (As := [.int (xs (x3 + 1).toNatClampNeg)]) (rest := [.int r]) hx hb hml hown hts hXm (LI.swap hI1) hl.1 mfX12_out mvX12_out rfl ll_105 dL_law_750 (kX12_out (l, D, qm, cy, aK, aV) _ _ _) hm1 (hO _ _ hR).2 ⟨Nat.le_of_ble_eq_true rfl, Nat.le_of_ble_eq_true rfl⟩ rfl rfl rfl (Nat.le_of_ble_eq_true rfl) ⟨Nat.le_of_ble_eq_true rfl, Nat.le_of_ble_eq_true rfl⟩ (fun H2 locs2 hI2 => ?_)
        refine lv_icmp_eq (tgt := 1111) hx hb dL_law_753 (by decide) (fun _ => ?_) (fun hq => absurd rfl hq)
        exact hE H2 locs2 σc1 σm1 (LI.swap hI2) hR1
      by_cases hj21 : j = 21
      · subst hj21
        refine lv_tableIn (off := 725) (tgt := 758) hx hb dL_law_33 (by decide) (by decide) (by decide) (by decide) ?_
        by_cases hz1 : (xs (x3 + 2).toNatClampNeg) = 0
        · skip
          obtain ⟨r, σc1, σm1, hc1, hm1, hR1⟩ := g21 σc σm (xs (x3 + 1).toNatClampNeg) (0 : Int32) (by decide) hR
          refine lv_aload_n hx hb dL_law_758 rfl (lv_at hl 1 rfl) ?_
          refine lv_aload_n hx hb dL_law_759 rfl (lv_at hl 0 rfl) ?_
          refine lv_iload_n hx hb dL_law_760 rfl (lv_at hl 3 rfl) ?_
          refine lv_iconst (v := 1) hx hb dL_law_761 (by decide) ?_
          refine lv_iadd hx hb dL_law_762 ?_
          refine va_sld hx hb hX hbl hbA hI.2.2.2.2.2 v1 dL_law_763 ?_
          refine lv_aload_n hx hb dL_law_764 rfl (lv_at hl 0 rfl) ?_
          refine lv_iload_n hx hb dL_law_765 rfl (lv_at hl 3 rfl) ?_
          refine lv_iconst (v := 2) hx hb dL_law_766 (by decide) ?_
          refine lv_iadd hx hb dL_law_767 ?_
          refine va_sld hx hb hX hbl hbA hI.2.2.2.2.2 v2 dL_law_768 ?_
          refine lv_if_eq (tgt := 776) hx hb dL_law_769 (by decide) (fun _ => ?_) (fun hq => absurd hz1 hq)
          refine lv_iconst (v := 0) hx hb dL_law_776 (by decide) ?_
          refine lw_call (G1 := (l, D, qc, cy, aK, aV)) (G2 := (l, D, qm, cy, aK, aV)) (ci := 11) (M' := mX11_reach) (h' := 5) (As := [.int (xs (x3 + 1).toNatClampNeg), .int (0 : Int32)]) (rest := []) hx hb hml hown hts hXc hI hl.1 mfX11_reach mvX11_reach rfl ll_106 dL_law_777 (kX11_reach (l, D, qc, cy, aK, aV) _ _ _ _) hc1 (hO _ _ hR).1 ⟨Nat.le_of_ble_eq_true rfl, Nat.le_of_ble_eq_true rfl⟩ rfl rfl rfl (Nat.le_of_ble_eq_true rfl) ⟨Nat.le_of_ble_eq_true rfl, Nat.le_of_ble_eq_true rfl⟩ (fun H1 locs1 hI1 => ?_)
          refine lv_aload_n hx hb dL_law_780 rfl (lv_at hl 2 rfl) ?_
          refine lv_aload_n hx hb dL_law_781 rfl (lv_at hl 0 rfl) ?_
          refine lv_iload_n hx hb dL_law_782 rfl (lv_at hl 3 rfl) ?_
          refine lv_iconst (v := 1) hx hb dL_law_783 (by decide) ?_
          refine lv_iadd hx hb dL_law_784 ?_
          refine va_sld hx hb hX hbl hbA hI1.2.2.2.2.2 v1 dL_law_785 ?_
          refine lv_aload_n hx hb dL_law_786 rfl (lv_at hl 0 rfl) ?_
          refine lv_iload_n hx hb dL_law_787 rfl (lv_at hl 3 rfl) ?_
          refine lv_iconst (v := 2) hx hb dL_law_788 (by decide) ?_
          refine lv_iadd hx hb dL_law_789 ?_
          refine va_sld hx hb hX hbl hbA hI1.2.2.2.2.2 v2 dL_law_790 ?_
          refine lv_if_eq (tgt := 798) hx hb dL_law_791 (by decide) (fun _ => ?_) (fun hq => absurd hz1 hq)
          refine lv_iconst (v := 0) hx hb dL_law_798 (by decide) ?_
          refine lw_call (G1 := (l, D, qm, cy, aK, aV)) (G2 := (l, D, qc, cy, aK, aV)) (ci := 12) (M' := mX12_reach) (h' := 4) (As := [.int (xs (x3 + 1).toNatClampNeg), .int (0 : Int32)]) (rest := [.long r]) hx hb hml hown hts hXm (LI.swap hI1) hl.1 mfX12_reach mvX12_reach rfl ll_109 dL_law_799 (kX12_reach (l, D, qm, cy, aK, aV) _ _ _ _) hm1 (hO _ _ hR).2 ⟨Nat.le_of_ble_eq_true rfl, Nat.le_of_ble_eq_true rfl⟩ rfl rfl rfl (Nat.le_of_ble_eq_true rfl) ⟨Nat.le_of_ble_eq_true rfl, Nat.le_of_ble_eq_true rfl⟩ (fun H2 locs2 hI2 => ?_)
          refine W.lcmp hx hb dL_law_802 ?_
          rw [lw_cmp]
          refine lv_if_eq (tgt := 1111) hx hb dL_law_803 (by decide) (fun _ => ?_) (fun hq => absurd rfl hq)
          exact hE H2 locs2 σc1 σm1 (LI.swap hI2) hR1
        · skip
          obtain ⟨r, σc1, σm1, hc1, hm1, hR1⟩ := g21 σc σm (xs (x3 + 1).toNatClampNeg) (1 : Int32) (by decide) hR
          refine lv_aload_n hx hb dL_law_758 rfl (lv_at hl 1 rfl) ?_
          refine lv_aload_n hx hb dL_law_759 rfl (lv_at hl 0 rfl) ?_
          refine lv_iload_n hx hb dL_law_760 rfl (lv_at hl 3 rfl) ?_
          refine lv_iconst (v := 1) hx hb dL_law_761 (by decide) ?_
          refine lv_iadd hx hb dL_law_762 ?_
          refine va_sld hx hb hX hbl hbA hI.2.2.2.2.2 v1 dL_law_763 ?_
          refine lv_aload_n hx hb dL_law_764 rfl (lv_at hl 0 rfl) ?_
          refine lv_iload_n hx hb dL_law_765 rfl (lv_at hl 3 rfl) ?_
          refine lv_iconst (v := 2) hx hb dL_law_766 (by decide) ?_
          refine lv_iadd hx hb dL_law_767 ?_
          refine va_sld hx hb hX hbl hbA hI.2.2.2.2.2 v2 dL_law_768 ?_
          refine lv_if_eq (tgt := 776) hx hb dL_law_769 (by decide) (fun hq => absurd hq hz1) (fun _ => ?_)
          refine lv_iconst (v := 1) hx hb dL_law_772 (by decide) ?_
          refine lv_goto (tgt := 777) hx hb dL_law_773 (by decide) ?_
          refine lw_call (G1 := (l, D, qc, cy, aK, aV)) (G2 := (l, D, qm, cy, aK, aV)) (ci := 11) (M' := mX11_reach) (h' := 5) (As := [.int (xs (x3 + 1).toNatClampNeg), .int (1 : Int32)]) (rest := []) hx hb hml hown hts hXc hI hl.1 mfX11_reach mvX11_reach rfl ll_106 dL_law_777 (kX11_reach (l, D, qc, cy, aK, aV) _ _ _ _) hc1 (hO _ _ hR).1 ⟨Nat.le_of_ble_eq_true rfl, Nat.le_of_ble_eq_true rfl⟩ rfl rfl rfl (Nat.le_of_ble_eq_true rfl) ⟨Nat.le_of_ble_eq_true rfl, Nat.le_of_ble_eq_true rfl⟩ (fun H1 locs1 hI1 => ?_)
          refine lv_aload_n hx hb dL_law_780 rfl (lv_at hl 2 rfl) ?_
          refine lv_aload_n hx hb dL_law_781 rfl (lv_at hl 0 rfl) ?_
          refine lv_iload_n hx hb dL_law_782 rfl (lv_at hl 3 rfl) ?_
          refine lv_iconst (v := 1) hx hb dL_law_783 (by decide) ?_
          refine lv_iadd hx hb dL_law_784 ?_
          refine va_sld hx hb hX hbl hbA hI1.2.2.2.2.2 v1 dL_law_785 ?_
          refine lv_aload_n hx hb dL_law_786 rfl (lv_at hl 0 rfl) ?_
          refine lv_iload_n hx hb dL_law_787 rfl (lv_at hl 3 rfl) ?_
          refine lv_iconst (v := 2) hx hb dL_law_788 (by decide) ?_
          refine lv_iadd hx hb dL_law_789 ?_
          refine va_sld hx hb hX hbl hbA hI1.2.2.2.2.2 v2 dL_law_790 ?_
          refine lv_if_eq (tgt := 798) hx hb dL_law_791 (by decide) (fun hq => absurd hq hz1) (fun _ => ?_)
          refine lv_iconst (v := 1) hx hb dL_law_794 (by decide) ?_
          refine lv_goto (tgt := 799) hx hb dL_law_795 (by decide) ?_
          refine lw_call (G1 := (l, D, qm, cy, aK, aV)) (G2 := (l, D, qc, cy, aK, aV)) (ci := 12) (M' := mX12_reach) (h' := 4) (As := [.int (xs (x3 + 1).toNatClampNeg), .int (1 : Int32)]) (rest := [.long r]) hx hb hml hown hts hXm (LI.swap hI1) hl.1 mfX12_reach mvX12_reach rfl ll_109 dL_law_799 (kX12_reach (l, D, qm, cy, aK, aV) _ _ _ _) hm1 (hO _ _ hR).2 ⟨Nat.le_of_ble_eq_true rfl, Nat.le_of_ble_eq_true rfl⟩ rfl rfl rfl (Nat.le_of_ble_eq_true rfl) ⟨Nat.le_of_ble_eq_true rfl, Nat.le_of_ble_eq_true rfl⟩ (fun H2 locs2 hI2 => ?_)
          refine W.lcmp hx hb dL_law_802 ?_
          rw [lw_cmp]
          refine lv_if_eq (tgt := 1111) hx hb dL_law_803 (by decide) (fun _ => ?_) (fun hq => absurd rfl hq)
          exact hE H2 locs2 σc1 σm1 (LI.swap hI2) hR1
      by_cases hj22 : j = 22
      · subst hj22
        refine lv_tableIn (off := 775) (tgt := 808) hx hb dL_law_33 (by decide) (by decide) (by decide) (by decide) ?_
        obtain ⟨r, σc1, σm1, hc1, hm1, hR1⟩ := g22 σc σm (xs (x3 + 1).toNatClampNeg)  hR
        refine lv_aload_n hx hb dL_law_808 rfl (lv_at hl 1 rfl) ?_
        refine lv_aload_n hx hb dL_law_809 rfl (lv_at hl 0 rfl) ?_
        refine lv_iload_n hx hb dL_law_810 rfl (lv_at hl 3 rfl) ?_
        refine lv_iconst (v := 1) hx hb dL_law_811 (by decide) ?_
        refine lv_iadd hx hb dL_law_812 ?_
        refine va_sld hx hb hX hbl hbA hI.2.2.2.2.2 v1 dL_law_813 ?_
        refine lw_call (G1 := (l, D, qc, cy, aK, aV)) (G2 := (l, D, qm, cy, aK, aV)) (ci := 11) (M' := mX11_bestOrder) (h' := 6) (As := [.int (xs (x3 + 1).toNatClampNeg)]) (rest := []) hx hb hml hown hts hXc hI hl.1 mfX11_bestOrder mvX11_bestOrder rfl ll_110 dL_law_814 (kX11_bestOrder (l, D, qc, cy, aK, aV) _ _ _) hc1 (hO _ _ hR).1 ⟨Nat.le_of_ble_eq_true rfl, Nat.le_of_ble_eq_true rfl⟩ rfl rfl rfl (Nat.le_of_ble_eq_true rfl) ⟨Nat.le_of_ble_eq_true rfl, Nat.le_of_ble_eq_true rfl⟩ (fun H1 locs1 hI1 => ?_)
        refine lv_aload_n hx hb dL_law_817 rfl (lv_at hl 2 rfl) ?_
        refine lv_aload_n hx hb dL_law_818 rfl (lv_at hl 0 rfl) ?_
        refine lv_iload_n hx hb dL_law_819 rfl (lv_at hl 3 rfl) ?_
        refine lv_iconst (v := 1) hx hb dL_law_820 (by decide) ?_
        refine lv_iadd hx hb dL_law_821 ?_
        refine va_sld hx hb hX hbl hbA hI1.2.2.2.2.2 v1 dL_law_822 ?_
        refine lw_call (G1 := (l, D, qm, cy, aK, aV)) (G2 := (l, D, qc, cy, aK, aV)) (ci := 12) (M' := mX12_bestOrder) (h' := 4) (As := [.int (xs (x3 + 1).toNatClampNeg)]) (rest := [.int r]) hx hb hml hown hts hXm (LI.swap hI1) hl.1 mfX12_bestOrder mvX12_bestOrder rfl ll_113 dL_law_823 (kX12_bestOrder (l, D, qm, cy, aK, aV) _ _ _) hm1 (hO _ _ hR).2 ⟨Nat.le_of_ble_eq_true rfl, Nat.le_of_ble_eq_true rfl⟩ rfl rfl rfl (Nat.le_of_ble_eq_true rfl) ⟨Nat.le_of_ble_eq_true rfl, Nat.le_of_ble_eq_true rfl⟩ (fun H2 locs2 hI2 => ?_)
        refine lv_icmp_eq (tgt := 1111) hx hb dL_law_826 (by decide) (fun _ => ?_) (fun hq => absurd rfl hq)
        exact hE H2 locs2 σc1 σm1 (LI.swap hI2) hR1
      by_cases hj23 : j = 23
      · subst hj23
        refine lv_tableIn (off := 798) (tgt := 831) hx hb dL_law_33 (by decide) (by decide) (by decide) (by decide) ?_
        by_cases hz1 : (xs (x3 + 2).toNatClampNeg) = 0
        · skip
          obtain ⟨r, σc1, σm1, hc1, hm1, hR1⟩ := g23 σc σm (xs (x3 + 1).toNatClampNeg) (0 : Int32) (by decide) hR
          refine lv_aload_n hx hb dL_law_831 rfl (lv_at hl 1 rfl) ?_
          refine lv_aload_n hx hb dL_law_832 rfl (lv_at hl 0 rfl) ?_
          refine lv_iload_n hx hb dL_law_833 rfl (lv_at hl 3 rfl) ?_
          refine lv_iconst (v := 1) hx hb dL_law_834 (by decide) ?_
          refine lv_iadd hx hb dL_law_835 ?_
          refine va_sld hx hb hX hbl hbA hI.2.2.2.2.2 v1 dL_law_836 ?_
          refine lv_aload_n hx hb dL_law_837 rfl (lv_at hl 0 rfl) ?_
          refine lv_iload_n hx hb dL_law_838 rfl (lv_at hl 3 rfl) ?_
          refine lv_iconst (v := 2) hx hb dL_law_839 (by decide) ?_
          refine lv_iadd hx hb dL_law_840 ?_
          refine va_sld hx hb hX hbl hbA hI.2.2.2.2.2 v2 dL_law_841 ?_
          refine lv_if_eq (tgt := 849) hx hb dL_law_842 (by decide) (fun _ => ?_) (fun hq => absurd hz1 hq)
          refine lv_iconst (v := 0) hx hb dL_law_849 (by decide) ?_
          refine lw_call (G1 := (l, D, qc, cy, aK, aV)) (G2 := (l, D, qm, cy, aK, aV)) (ci := 11) (M' := mX11_alike) (h' := 4) (As := [.int (xs (x3 + 1).toNatClampNeg), .int (0 : Int32)]) (rest := []) hx hb hml hown hts hXc hI hl.1 mfX11_alike mvX11_alike rfl ll_114 dL_law_850 (kX11_alike (l, D, qc, cy, aK, aV) _ _ _ _) hc1 (hO _ _ hR).1 ⟨Nat.le_of_ble_eq_true rfl, Nat.le_of_ble_eq_true rfl⟩ rfl rfl rfl (Nat.le_of_ble_eq_true rfl) ⟨Nat.le_of_ble_eq_true rfl, Nat.le_of_ble_eq_true rfl⟩ (fun H1 locs1 hI1 => ?_)
          refine lv_aload_n hx hb dL_law_853 rfl (lv_at hl 2 rfl) ?_
          refine lv_aload_n hx hb dL_law_854 rfl (lv_at hl 0 rfl) ?_
          refine lv_iload_n hx hb dL_law_855 rfl (lv_at hl 3 rfl) ?_
          refine lv_iconst (v := 1) hx hb dL_law_856 (by decide) ?_
          refine lv_iadd hx hb dL_law_857 ?_
          refine va_sld hx hb hX hbl hbA hI1.2.2.2.2.2 v1 dL_law_858 ?_
          refine lv_aload_n hx hb dL_law_859 rfl (lv_at hl 0 rfl) ?_
          refine lv_iload_n hx hb dL_law_860 rfl (lv_at hl 3 rfl) ?_
          refine lv_iconst (v := 2) hx hb dL_law_861 (by decide) ?_
          refine lv_iadd hx hb dL_law_862 ?_
          refine va_sld hx hb hX hbl hbA hI1.2.2.2.2.2 v2 dL_law_863 ?_
          refine lv_if_eq (tgt := 871) hx hb dL_law_864 (by decide) (fun _ => ?_) (fun hq => absurd hz1 hq)
          refine lv_iconst (v := 0) hx hb dL_law_871 (by decide) ?_
          refine lw_call (G1 := (l, D, qm, cy, aK, aV)) (G2 := (l, D, qc, cy, aK, aV)) (ci := 12) (M' := mX12_alike) (h' := 4) (As := [.int (xs (x3 + 1).toNatClampNeg), .int (0 : Int32)]) (rest := [.long r]) hx hb hml hown hts hXm (LI.swap hI1) hl.1 mfX12_alike mvX12_alike rfl ll_117 dL_law_872 (kX12_alike (l, D, qm, cy, aK, aV) _ _ _ _) hm1 (hO _ _ hR).2 ⟨Nat.le_of_ble_eq_true rfl, Nat.le_of_ble_eq_true rfl⟩ rfl rfl rfl (Nat.le_of_ble_eq_true rfl) ⟨Nat.le_of_ble_eq_true rfl, Nat.le_of_ble_eq_true rfl⟩ (fun H2 locs2 hI2 => ?_)
          refine W.lcmp hx hb dL_law_875 ?_
          rw [lw_cmp]
          refine lv_if_eq (tgt := 1111) hx hb dL_law_876 (by decide) (fun _ => ?_) (fun hq => absurd rfl hq)
          exact hE H2 locs2 σc1 σm1 (LI.swap hI2) hR1
        · skip
          obtain ⟨r, σc1, σm1, hc1, hm1, hR1⟩ := g23 σc σm (xs (x3 + 1).toNatClampNeg) (1 : Int32) (by decide) hR
          refine lv_aload_n hx hb dL_law_831 rfl (lv_at hl 1 rfl) ?_
          refine lv_aload_n hx hb dL_law_832 rfl (lv_at hl 0 rfl) ?_
          refine lv_iload_n hx hb dL_law_833 rfl (lv_at hl 3 rfl) ?_
          refine lv_iconst (v := 1) hx hb dL_law_834 (by decide) ?_
          refine lv_iadd hx hb dL_law_835 ?_
          refine va_sld hx hb hX hbl hbA hI.2.2.2.2.2 v1 dL_law_836 ?_
          refine lv_aload_n hx hb dL_law_837 rfl (lv_at hl 0 rfl) ?_
          refine lv_iload_n hx hb dL_law_838 rfl (lv_at hl 3 rfl) ?_
          refine lv_iconst (v := 2) hx hb dL_law_839 (by decide) ?_
          refine lv_iadd hx hb dL_law_840 ?_
          refine va_sld hx hb hX hbl hbA hI.2.2.2.2.2 v2 dL_law_841 ?_
          refine lv_if_eq (tgt := 849) hx hb dL_law_842 (by decide) (fun hq => absurd hq hz1) (fun _ => ?_)
          refine lv_iconst (v := 1) hx hb dL_law_845 (by decide) ?_
          refine lv_goto (tgt := 850) hx hb dL_law_846 (by decide) ?_
          refine lw_call (G1 := (l, D, qc, cy, aK, aV)) (G2 := (l, D, qm, cy, aK, aV)) (ci := 11) (M' := mX11_alike) (h' := 4) (As := [.int (xs (x3 + 1).toNatClampNeg), .int (1 : Int32)]) (rest := []) hx hb hml hown hts hXc hI hl.1 mfX11_alike mvX11_alike rfl ll_114 dL_law_850 (kX11_alike (l, D, qc, cy, aK, aV) _ _ _ _) hc1 (hO _ _ hR).1 ⟨Nat.le_of_ble_eq_true rfl, Nat.le_of_ble_eq_true rfl⟩ rfl rfl rfl (Nat.le_of_ble_eq_true rfl) ⟨Nat.le_of_ble_eq_true rfl, Nat.le_of_ble_eq_true rfl⟩ (fun H1 locs1 hI1 => ?_)
          refine lv_aload_n hx hb dL_law_853 rfl (lv_at hl 2 rfl) ?_
          refine lv_aload_n hx hb dL_law_854 rfl (lv_at hl 0 rfl) ?_
          refine lv_iload_n hx hb dL_law_855 rfl (lv_at hl 3 rfl) ?_
          refine lv_iconst (v := 1) hx hb dL_law_856 (by decide) ?_
          refine lv_iadd hx hb dL_law_857 ?_
          refine va_sld hx hb hX hbl hbA hI1.2.2.2.2.2 v1 dL_law_858 ?_
          refine lv_aload_n hx hb dL_law_859 rfl (lv_at hl 0 rfl) ?_
          refine lv_iload_n hx hb dL_law_860 rfl (lv_at hl 3 rfl) ?_
          refine lv_iconst (v := 2) hx hb dL_law_861 (by decide) ?_
          refine lv_iadd hx hb dL_law_862 ?_
          refine va_sld hx hb hX hbl hbA hI1.2.2.2.2.2 v2 dL_law_863 ?_
          refine lv_if_eq (tgt := 871) hx hb dL_law_864 (by decide) (fun hq => absurd hq hz1) (fun _ => ?_)
          refine lv_iconst (v := 1) hx hb dL_law_867 (by decide) ?_
          refine lv_goto (tgt := 872) hx hb dL_law_868 (by decide) ?_
          refine lw_call (G1 := (l, D, qm, cy, aK, aV)) (G2 := (l, D, qc, cy, aK, aV)) (ci := 12) (M' := mX12_alike) (h' := 4) (As := [.int (xs (x3 + 1).toNatClampNeg), .int (1 : Int32)]) (rest := [.long r]) hx hb hml hown hts hXm (LI.swap hI1) hl.1 mfX12_alike mvX12_alike rfl ll_117 dL_law_872 (kX12_alike (l, D, qm, cy, aK, aV) _ _ _ _) hm1 (hO _ _ hR).2 ⟨Nat.le_of_ble_eq_true rfl, Nat.le_of_ble_eq_true rfl⟩ rfl rfl rfl (Nat.le_of_ble_eq_true rfl) ⟨Nat.le_of_ble_eq_true rfl, Nat.le_of_ble_eq_true rfl⟩ (fun H2 locs2 hI2 => ?_)
          refine W.lcmp hx hb dL_law_875 ?_
          rw [lw_cmp]
          refine lv_if_eq (tgt := 1111) hx hb dL_law_876 (by decide) (fun _ => ?_) (fun hq => absurd rfl hq)
          exact hE H2 locs2 σc1 σm1 (LI.swap hI2) hR1
      by_cases hj24 : j = 24
      · subst hj24
        refine lv_tableIn (off := 848) (tgt := 881) hx hb dL_law_33 (by decide) (by decide) (by decide) (by decide) ?_
        obtain ⟨r, σc1, σm1, hc1, hm1, hR1⟩ := g24 σc σm (xs (x3 + 1).toNatClampNeg) (xs (x3 + 2).toNatClampNeg)  hR
        refine lv_aload_n hx hb dL_law_881 rfl (lv_at hl 1 rfl) ?_
        refine lv_aload_n hx hb dL_law_882 rfl (lv_at hl 0 rfl) ?_
        refine lv_iload_n hx hb dL_law_883 rfl (lv_at hl 3 rfl) ?_
        refine lv_iconst (v := 1) hx hb dL_law_884 (by decide) ?_
        refine lv_iadd hx hb dL_law_885 ?_
        refine va_sld hx hb hX hbl hbA hI.2.2.2.2.2 v1 dL_law_886 ?_
        refine lv_aload_n hx hb dL_law_887 rfl (lv_at hl 0 rfl) ?_
        refine lv_iload_n hx hb dL_law_888 rfl (lv_at hl 3 rfl) ?_
        refine lv_iconst (v := 2) hx hb dL_law_889 (by decide) ?_
        refine lv_iadd hx hb dL_law_890 ?_
        refine va_sld hx hb hX hbl hbA hI.2.2.2.2.2 v2 dL_law_891 ?_
        refine lw_call (G1 := (l, D, qc, cy, aK, aV)) (G2 := (l, D, qm, cy, aK, aV)) (ci := 11) (M' := mX11_needed) (h' := 4) (As := [.int (xs (x3 + 1).toNatClampNeg), .int (xs (x3 + 2).toNatClampNeg)]) (rest := []) hx hb hml hown hts hXc hI hl.1 mfX11_needed mvX11_needed rfl ll_118 dL_law_892 (kX11_needed (l, D, qc, cy, aK, aV) _ _ _ _) hc1 (hO _ _ hR).1 ⟨Nat.le_of_ble_eq_true rfl, Nat.le_of_ble_eq_true rfl⟩ rfl rfl rfl (Nat.le_of_ble_eq_true rfl) ⟨Nat.le_of_ble_eq_true rfl, Nat.le_of_ble_eq_true rfl⟩ (fun H1 locs1 hI1 => ?_)
        refine lv_aload_n hx hb dL_law_895 rfl (lv_at hl 2 rfl) ?_
        refine lv_aload_n hx hb dL_law_896 rfl (lv_at hl 0 rfl) ?_
        refine lv_iload_n hx hb dL_law_897 rfl (lv_at hl 3 rfl) ?_
        refine lv_iconst (v := 1) hx hb dL_law_898 (by decide) ?_
        refine lv_iadd hx hb dL_law_899 ?_
        refine va_sld hx hb hX hbl hbA hI1.2.2.2.2.2 v1 dL_law_900 ?_
        refine lv_aload_n hx hb dL_law_901 rfl (lv_at hl 0 rfl) ?_
        refine lv_iload_n hx hb dL_law_902 rfl (lv_at hl 3 rfl) ?_
        refine lv_iconst (v := 2) hx hb dL_law_903 (by decide) ?_
        refine lv_iadd hx hb dL_law_904 ?_
        refine va_sld hx hb hX hbl hbA hI1.2.2.2.2.2 v2 dL_law_905 ?_
        refine lw_call (G1 := (l, D, qm, cy, aK, aV)) (G2 := (l, D, qc, cy, aK, aV)) (ci := 12) (M' := mX12_needed) (h' := 4) (As := [.int (xs (x3 + 1).toNatClampNeg), .int (xs (x3 + 2).toNatClampNeg)]) (rest := [.int r]) hx hb hml hown hts hXm (LI.swap hI1) hl.1 mfX12_needed mvX12_needed rfl ll_121 dL_law_906 (kX12_needed (l, D, qm, cy, aK, aV) _ _ _ _) hm1 (hO _ _ hR).2 ⟨Nat.le_of_ble_eq_true rfl, Nat.le_of_ble_eq_true rfl⟩ rfl rfl rfl (Nat.le_of_ble_eq_true rfl) ⟨Nat.le_of_ble_eq_true rfl, Nat.le_of_ble_eq_true rfl⟩ (fun H2 locs2 hI2 => ?_)
        refine lv_icmp_eq (tgt := 1111) hx hb dL_law_909 (by decide) (fun _ => ?_) (fun hq => absurd rfl hq)
        exact hE H2 locs2 σc1 σm1 (LI.swap hI2) hR1
      by_cases hj25 : j = 25
      · subst hj25
        refine lv_tableIn (off := 881) (tgt := 914) hx hb dL_law_33 (by decide) (by decide) (by decide) (by decide) ?_
        by_cases hz0 : (xs (x3 + 1).toNatClampNeg) = 0
        · skip
          obtain ⟨r, σc1, σm1, hc1, hm1, hR1⟩ := g25 σc σm (0 : Int32) (by decide) hR
          refine lv_aload_n hx hb dL_law_914 rfl (lv_at hl 1 rfl) ?_
          refine lv_aload_n hx hb dL_law_915 rfl (lv_at hl 0 rfl) ?_
          refine lv_iload_n hx hb dL_law_916 rfl (lv_at hl 3 rfl) ?_
          refine lv_iconst (v := 1) hx hb dL_law_917 (by decide) ?_
          refine lv_iadd hx hb dL_law_918 ?_
          refine va_sld hx hb hX hbl hbA hI.2.2.2.2.2 v1 dL_law_919 ?_
          refine lv_if_eq (tgt := 927) hx hb dL_law_920 (by decide) (fun _ => ?_) (fun hq => absurd hz0 hq)
          refine lv_iconst (v := 0) hx hb dL_law_927 (by decide) ?_
          refine lw_call (G1 := (l, D, qc, cy, aK, aV)) (G2 := (l, D, qm, cy, aK, aV)) (ci := 11) (M' := mX11_see) (h' := 5) (As := [.int (0 : Int32)]) (rest := []) hx hb hml hown hts hXc hI hl.1 mfX11_see mvX11_see rfl ll_122 dL_law_928 (kX11_see (l, D, qc, cy, aK, aV) _ _ _) hc1 (hO _ _ hR).1 ⟨Nat.le_of_ble_eq_true rfl, Nat.le_of_ble_eq_true rfl⟩ rfl rfl rfl (Nat.le_of_ble_eq_true rfl) ⟨Nat.le_of_ble_eq_true rfl, Nat.le_of_ble_eq_true rfl⟩ (fun H1 locs1 hI1 => ?_)
          refine lv_aload_n hx hb dL_law_931 rfl (lv_at hl 2 rfl) ?_
          refine lv_aload_n hx hb dL_law_932 rfl (lv_at hl 0 rfl) ?_
          refine lv_iload_n hx hb dL_law_933 rfl (lv_at hl 3 rfl) ?_
          refine lv_iconst (v := 1) hx hb dL_law_934 (by decide) ?_
          refine lv_iadd hx hb dL_law_935 ?_
          refine va_sld hx hb hX hbl hbA hI1.2.2.2.2.2 v1 dL_law_936 ?_
          refine lv_if_eq (tgt := 944) hx hb dL_law_937 (by decide) (fun _ => ?_) (fun hq => absurd hz0 hq)
          refine lv_iconst (v := 0) hx hb dL_law_944 (by decide) ?_
          refine lw_call (G1 := (l, D, qm, cy, aK, aV)) (G2 := (l, D, qc, cy, aK, aV)) (ci := 12) (M' := mX12_see) (h' := 1) (As := [.int (0 : Int32)]) (rest := [.int r]) hx hb hml hown hts hXm (LI.swap hI1) hl.1 mfX12_see mvX12_see rfl ll_126 dL_law_945 (kX12_see (l, D, qm, cy, aK, aV) _ _ _) hm1 (hO _ _ hR).2 ⟨Nat.le_of_ble_eq_true rfl, Nat.le_of_ble_eq_true rfl⟩ rfl rfl rfl (Nat.le_of_ble_eq_true rfl) ⟨Nat.le_of_ble_eq_true rfl, Nat.le_of_ble_eq_true rfl⟩ (fun H2 locs2 hI2 => ?_)
          refine lv_icmp_eq (tgt := 1111) hx hb dL_law_948 (by decide) (fun _ => ?_) (fun hq => absurd rfl hq)
          exact hE H2 locs2 σc1 σm1 (LI.swap hI2) hR1
        · skip
          obtain ⟨r, σc1, σm1, hc1, hm1, hR1⟩ := g25 σc σm (1 : Int32) (by decide) hR
          refine lv_aload_n hx hb dL_law_914 rfl (lv_at hl 1 rfl) ?_
          refine lv_aload_n hx hb dL_law_915 rfl (lv_at hl 0 rfl) ?_
          refine lv_iload_n hx hb dL_law_916 rfl (lv_at hl 3 rfl) ?_
          refine lv_iconst (v := 1) hx hb dL_law_917 (by decide) ?_
          refine lv_iadd hx hb dL_law_918 ?_
          refine va_sld hx hb hX hbl hbA hI.2.2.2.2.2 v1 dL_law_919 ?_
          refine lv_if_eq (tgt := 927) hx hb dL_law_920 (by decide) (fun hq => absurd hq hz0) (fun _ => ?_)
          refine lv_iconst (v := 1) hx hb dL_law_923 (by decide) ?_
          refine lv_goto (tgt := 928) hx hb dL_law_924 (by decide) ?_
          refine lw_call (G1 := (l, D, qc, cy, aK, aV)) (G2 := (l, D, qm, cy, aK, aV)) (ci := 11) (M' := mX11_see) (h' := 5) (As := [.int (1 : Int32)]) (rest := []) hx hb hml hown hts hXc hI hl.1 mfX11_see mvX11_see rfl ll_122 dL_law_928 (kX11_see (l, D, qc, cy, aK, aV) _ _ _) hc1 (hO _ _ hR).1 ⟨Nat.le_of_ble_eq_true rfl, Nat.le_of_ble_eq_true rfl⟩ rfl rfl rfl (Nat.le_of_ble_eq_true rfl) ⟨Nat.le_of_ble_eq_true rfl, Nat.le_of_ble_eq_true rfl⟩ (fun H1 locs1 hI1 => ?_)
          refine lv_aload_n hx hb dL_law_931 rfl (lv_at hl 2 rfl) ?_
          refine lv_aload_n hx hb dL_law_932 rfl (lv_at hl 0 rfl) ?_
          refine lv_iload_n hx hb dL_law_933 rfl (lv_at hl 3 rfl) ?_
          refine lv_iconst (v := 1) hx hb dL_law_934 (by decide) ?_
          refine lv_iadd hx hb dL_law_935 ?_
          refine va_sld hx hb hX hbl hbA hI1.2.2.2.2.2 v1 dL_law_936 ?_
          refine lv_if_eq (tgt := 944) hx hb dL_law_937 (by decide) (fun hq => absurd hq hz0) (fun _ => ?_)
          refine lv_iconst (v := 1) hx hb dL_law_940 (by decide) ?_
          refine lv_goto (tgt := 945) hx hb dL_law_941 (by decide) ?_
          refine lw_call (G1 := (l, D, qm, cy, aK, aV)) (G2 := (l, D, qc, cy, aK, aV)) (ci := 12) (M' := mX12_see) (h' := 1) (As := [.int (1 : Int32)]) (rest := [.int r]) hx hb hml hown hts hXm (LI.swap hI1) hl.1 mfX12_see mvX12_see rfl ll_126 dL_law_945 (kX12_see (l, D, qm, cy, aK, aV) _ _ _) hm1 (hO _ _ hR).2 ⟨Nat.le_of_ble_eq_true rfl, Nat.le_of_ble_eq_true rfl⟩ rfl rfl rfl (Nat.le_of_ble_eq_true rfl) ⟨Nat.le_of_ble_eq_true rfl, Nat.le_of_ble_eq_true rfl⟩ (fun H2 locs2 hI2 => ?_)
          refine lv_icmp_eq (tgt := 1111) hx hb dL_law_948 (by decide) (fun _ => ?_) (fun hq => absurd rfl hq)
          exact hE H2 locs2 σc1 σm1 (LI.swap hI2) hR1
      by_cases hj26 : j = 26
      · subst hj26
        refine lv_tableIn (off := 920) (tgt := 953) hx hb dL_law_33 (by decide) (by decide) (by decide) (by decide) ?_
        obtain ⟨r, σc1, σm1, hc1, hm1, hR1⟩ := g26 σc σm   hR
        refine lv_aload_n hx hb dL_law_953 rfl (lv_at hl 1 rfl) ?_
        refine lw_call (G1 := (l, D, qc, cy, aK, aV)) (G2 := (l, D, qm, cy, aK, aV)) (ci := 11) (M' := mX11_forget) (h' := 1) (As := []) (rest := []) hx hb hml hown hts hXc hI hl.1 mfX11_forget mvX11_forget rfl ll_127 dL_law_954 (kX11_forget (l, D, qc, cy, aK, aV) _ _) hc1 (hO _ _ hR).1 ⟨Nat.le_of_ble_eq_true rfl, Nat.le_of_ble_eq_true rfl⟩ rfl rfl rfl (Nat.le_of_ble_eq_true rfl) ⟨Nat.le_of_ble_eq_true rfl, Nat.le_of_ble_eq_true rfl⟩ (fun H1 locs1 hI1 => ?_)
        refine lv_aload_n hx hb dL_law_957 rfl (lv_at hl 2 rfl) ?_
        refine lw_call (G1 := (l, D, qm, cy, aK, aV)) (G2 := (l, D, qc, cy, aK, aV)) (ci := 12) (M' := mX12_forget) (h' := 1) (As := []) (rest := [.int r]) hx hb hml hown hts hXm (LI.swap hI1) hl.1 mfX12_forget mvX12_forget rfl ll_130 dL_law_958 (kX12_forget (l, D, qm, cy, aK, aV) _ _) hm1 (hO _ _ hR).2 ⟨Nat.le_of_ble_eq_true rfl, Nat.le_of_ble_eq_true rfl⟩ rfl rfl rfl (Nat.le_of_ble_eq_true rfl) ⟨Nat.le_of_ble_eq_true rfl, Nat.le_of_ble_eq_true rfl⟩ (fun H2 locs2 hI2 => ?_)
        refine lv_icmp_eq (tgt := 1111) hx hb dL_law_961 (by decide) (fun _ => ?_) (fun hq => absurd rfl hq)
        exact hE H2 locs2 σc1 σm1 (LI.swap hI2) hR1
      by_cases hj27 : j = 27
      · subst hj27
        refine lv_tableIn (off := 933) (tgt := 966) hx hb dL_law_33 (by decide) (by decide) (by decide) (by decide) ?_
        obtain ⟨r, σc1, σm1, hc1, hm1, hR1⟩ := g27 σc σm (xs (x3 + 1).toNatClampNeg) (xs (x3 + 2).toNatClampNeg)  hR
        refine lv_aload_n hx hb dL_law_966 rfl (lv_at hl 1 rfl) ?_
        refine lv_aload_n hx hb dL_law_967 rfl (lv_at hl 0 rfl) ?_
        refine lv_iload_n hx hb dL_law_968 rfl (lv_at hl 3 rfl) ?_
        refine lv_iconst (v := 1) hx hb dL_law_969 (by decide) ?_
        refine lv_iadd hx hb dL_law_970 ?_
        refine va_sld hx hb hX hbl hbA hI.2.2.2.2.2 v1 dL_law_971 ?_
        refine lv_aload_n hx hb dL_law_972 rfl (lv_at hl 0 rfl) ?_
        refine lv_iload_n hx hb dL_law_973 rfl (lv_at hl 3 rfl) ?_
        refine lv_iconst (v := 2) hx hb dL_law_974 (by decide) ?_
        refine lv_iadd hx hb dL_law_975 ?_
        refine va_sld hx hb hX hbl hbA hI.2.2.2.2.2 v2 dL_law_976 ?_
        refine lw_call (G1 := (l, D, qc, cy, aK, aV)) (G2 := (l, D, qm, cy, aK, aV)) (ci := 11) (M' := mX11_fits) (h' := 4) (As := [.int (xs (x3 + 1).toNatClampNeg), .int (xs (x3 + 2).toNatClampNeg)]) (rest := []) hx hb hml hown hts hXc hI hl.1 mfX11_fits mvX11_fits rfl ll_131 dL_law_977 (kX11_fits (l, D, qc, cy, aK, aV) _ _ _ _) hc1 (hO _ _ hR).1 ⟨Nat.le_of_ble_eq_true rfl, Nat.le_of_ble_eq_true rfl⟩ rfl rfl rfl (Nat.le_of_ble_eq_true rfl) ⟨Nat.le_of_ble_eq_true rfl, Nat.le_of_ble_eq_true rfl⟩ (fun H1 locs1 hI1 => ?_)
        refine lv_aload_n hx hb dL_law_980 rfl (lv_at hl 2 rfl) ?_
        refine lv_aload_n hx hb dL_law_981 rfl (lv_at hl 0 rfl) ?_
        refine lv_iload_n hx hb dL_law_982 rfl (lv_at hl 3 rfl) ?_
        refine lv_iconst (v := 1) hx hb dL_law_983 (by decide) ?_
        refine lv_iadd hx hb dL_law_984 ?_
        refine va_sld hx hb hX hbl hbA hI1.2.2.2.2.2 v1 dL_law_985 ?_
        refine lv_aload_n hx hb dL_law_986 rfl (lv_at hl 0 rfl) ?_
        refine lv_iload_n hx hb dL_law_987 rfl (lv_at hl 3 rfl) ?_
        refine lv_iconst (v := 2) hx hb dL_law_988 (by decide) ?_
        refine lv_iadd hx hb dL_law_989 ?_
        refine va_sld hx hb hX hbl hbA hI1.2.2.2.2.2 v2 dL_law_990 ?_
        refine lw_call (G1 := (l, D, qm, cy, aK, aV)) (G2 := (l, D, qc, cy, aK, aV)) (ci := 12) (M' := mX12_fits) (h' := 8) (As := [.int (xs (x3 + 1).toNatClampNeg), .int (xs (x3 + 2).toNatClampNeg)]) (rest := [.int r]) hx hb hml hown hts hXm (LI.swap hI1) hl.1 mfX12_fits mvX12_fits rfl ll_134 dL_law_991 (kX12_fits (l, D, qm, cy, aK, aV) _ _ _ _) hm1 (hO _ _ hR).2 ⟨Nat.le_of_ble_eq_true rfl, Nat.le_of_ble_eq_true rfl⟩ rfl rfl rfl (Nat.le_of_ble_eq_true rfl) ⟨Nat.le_of_ble_eq_true rfl, Nat.le_of_ble_eq_true rfl⟩ (fun H2 locs2 hI2 => ?_)
        refine lv_icmp_eq (tgt := 1111) hx hb dL_law_994 (by decide) (fun _ => ?_) (fun hq => absurd rfl hq)
        exact hE H2 locs2 σc1 σm1 (LI.swap hI2) hR1
      by_cases hj28 : j = 28
      · subst hj28
        refine lv_tableIn (off := 966) (tgt := 999) hx hb dL_law_33 (by decide) (by decide) (by decide) (by decide) ?_
        obtain ⟨r, σc1, σm1, hc1, hm1, hR1⟩ := g28 σc σm (xs (x3 + 1).toNatClampNeg) (xs (x3 + 2).toNatClampNeg) (xs (x3 + 3).toNatClampNeg)  hR
        refine lv_aload_n hx hb dL_law_999 rfl (lv_at hl 1 rfl) ?_
        refine lv_aload_n hx hb dL_law_1000 rfl (lv_at hl 0 rfl) ?_
        refine lv_iload_n hx hb dL_law_1001 rfl (lv_at hl 3 rfl) ?_
        refine lv_iconst (v := 1) hx hb dL_law_1002 (by decide) ?_
        refine lv_iadd hx hb dL_law_1003 ?_
        refine va_sld hx hb hX hbl hbA hI.2.2.2.2.2 v1 dL_law_1004 ?_
        refine lv_aload_n hx hb dL_law_1005 rfl (lv_at hl 0 rfl) ?_
        refine lv_iload_n hx hb dL_law_1006 rfl (lv_at hl 3 rfl) ?_
        refine lv_iconst (v := 2) hx hb dL_law_1007 (by decide) ?_
        refine lv_iadd hx hb dL_law_1008 ?_
        refine va_sld hx hb hX hbl hbA hI.2.2.2.2.2 v2 dL_law_1009 ?_
        refine lv_aload_n hx hb dL_law_1010 rfl (lv_at hl 0 rfl) ?_
        refine lv_iload_n hx hb dL_law_1011 rfl (lv_at hl 3 rfl) ?_
        refine lv_iconst (v := 3) hx hb dL_law_1012 (by decide) ?_
        refine lv_iadd hx hb dL_law_1013 ?_
        refine va_sld hx hb hX hbl hbA hI.2.2.2.2.2 v3 dL_law_1014 ?_
        refine lw_call (G1 := (l, D, qc, cy, aK, aV)) (G2 := (l, D, qm, cy, aK, aV)) (ci := 11) (M' := mX11_span) (h' := 4) (As := [.int (xs (x3 + 1).toNatClampNeg), .int (xs (x3 + 2).toNatClampNeg), .int (xs (x3 + 3).toNatClampNeg)]) (rest := []) hx hb hml hown hts hXc hI hl.1 mfX11_span mvX11_span rfl ll_135 dL_law_1015 (kX11_span (l, D, qc, cy, aK, aV) _ _ _ _ _) hc1 (hO _ _ hR).1 ⟨Nat.le_of_ble_eq_true rfl, Nat.le_of_ble_eq_true rfl⟩ rfl rfl rfl (Nat.le_of_ble_eq_true rfl) ⟨Nat.le_of_ble_eq_true rfl, Nat.le_of_ble_eq_true rfl⟩ (fun H1 locs1 hI1 => ?_)
        refine lv_aload_n hx hb dL_law_1018 rfl (lv_at hl 2 rfl) ?_
        refine lv_aload_n hx hb dL_law_1019 rfl (lv_at hl 0 rfl) ?_
        refine lv_iload_n hx hb dL_law_1020 rfl (lv_at hl 3 rfl) ?_
        refine lv_iconst (v := 1) hx hb dL_law_1021 (by decide) ?_
        refine lv_iadd hx hb dL_law_1022 ?_
        refine va_sld hx hb hX hbl hbA hI1.2.2.2.2.2 v1 dL_law_1023 ?_
        refine lv_aload_n hx hb dL_law_1024 rfl (lv_at hl 0 rfl) ?_
        refine lv_iload_n hx hb dL_law_1025 rfl (lv_at hl 3 rfl) ?_
        refine lv_iconst (v := 2) hx hb dL_law_1026 (by decide) ?_
        refine lv_iadd hx hb dL_law_1027 ?_
        refine va_sld hx hb hX hbl hbA hI1.2.2.2.2.2 v2 dL_law_1028 ?_
        refine lv_aload_n hx hb dL_law_1029 rfl (lv_at hl 0 rfl) ?_
        refine lv_iload_n hx hb dL_law_1030 rfl (lv_at hl 3 rfl) ?_
        refine lv_iconst (v := 3) hx hb dL_law_1031 (by decide) ?_
        refine lv_iadd hx hb dL_law_1032 ?_
        refine va_sld hx hb hX hbl hbA hI1.2.2.2.2.2 v3 dL_law_1033 ?_
        refine lw_call (G1 := (l, D, qm, cy, aK, aV)) (G2 := (l, D, qc, cy, aK, aV)) (ci := 12) (M' := mX12_span) (h' := 8) (As := [.int (xs (x3 + 1).toNatClampNeg), .int (xs (x3 + 2).toNatClampNeg), .int (xs (x3 + 3).toNatClampNeg)]) (rest := [.int r]) hx hb hml hown hts hXm (LI.swap hI1) hl.1 mfX12_span mvX12_span rfl ll_139 dL_law_1034 (kX12_span (l, D, qm, cy, aK, aV) _ _ _ _ _) hm1 (hO _ _ hR).2 ⟨Nat.le_of_ble_eq_true rfl, Nat.le_of_ble_eq_true rfl⟩ rfl rfl rfl (Nat.le_of_ble_eq_true rfl) ⟨Nat.le_of_ble_eq_true rfl, Nat.le_of_ble_eq_true rfl⟩ (fun H2 locs2 hI2 => ?_)
        refine lv_icmp_eq (tgt := 1111) hx hb dL_law_1037 (by decide) (fun _ => ?_) (fun hq => absurd rfl hq)
        exact hE H2 locs2 σc1 σm1 (LI.swap hI2) hR1
      by_cases hj29 : j = 29
      · subst hj29
        refine lv_tableIn (off := 1009) (tgt := 1042) hx hb dL_law_33 (by decide) (by decide) (by decide) (by decide) ?_
        obtain ⟨r, σc1, σm1, hc1, hm1, hR1⟩ := g29 σc σm (xs (x3 + 1).toNatClampNeg)  hR
        refine lv_aload_n hx hb dL_law_1042 rfl (lv_at hl 1 rfl) ?_
        refine lv_aload_n hx hb dL_law_1043 rfl (lv_at hl 0 rfl) ?_
        refine lv_iload_n hx hb dL_law_1044 rfl (lv_at hl 3 rfl) ?_
        refine lv_iconst (v := 1) hx hb dL_law_1045 (by decide) ?_
        refine lv_iadd hx hb dL_law_1046 ?_
        refine va_sld hx hb hX hbl hbA hI.2.2.2.2.2 v1 dL_law_1047 ?_
        refine lw_call (G1 := (l, D, qc, cy, aK, aV)) (G2 := (l, D, qm, cy, aK, aV)) (ci := 11) (M' := mX11_hold) (h' := 4) (As := [.int (xs (x3 + 1).toNatClampNeg)]) (rest := []) hx hb hml hown hts hXc hI hl.1 mfX11_hold mvX11_hold rfl ll_140 dL_law_1048 (kX11_hold (l, D, qc, cy, aK, aV) _ _ _) hc1 (hO _ _ hR).1 ⟨Nat.le_of_ble_eq_true rfl, Nat.le_of_ble_eq_true rfl⟩ rfl rfl rfl (Nat.le_of_ble_eq_true rfl) ⟨Nat.le_of_ble_eq_true rfl, Nat.le_of_ble_eq_true rfl⟩ (fun H1 locs1 hI1 => ?_)
        refine lv_aload_n hx hb dL_law_1051 rfl (lv_at hl 2 rfl) ?_
        refine lv_aload_n hx hb dL_law_1052 rfl (lv_at hl 0 rfl) ?_
        refine lv_iload_n hx hb dL_law_1053 rfl (lv_at hl 3 rfl) ?_
        refine lv_iconst (v := 1) hx hb dL_law_1054 (by decide) ?_
        refine lv_iadd hx hb dL_law_1055 ?_
        refine va_sld hx hb hX hbl hbA hI1.2.2.2.2.2 v1 dL_law_1056 ?_
        refine lw_call (G1 := (l, D, qm, cy, aK, aV)) (G2 := (l, D, qc, cy, aK, aV)) (ci := 12) (M' := mX12_hold) (h' := 2) (As := [.int (xs (x3 + 1).toNatClampNeg)]) (rest := [.int r]) hx hb hml hown hts hXm (LI.swap hI1) hl.1 mfX12_hold mvX12_hold rfl ll_144 dL_law_1057 (kX12_hold (l, D, qm, cy, aK, aV) _ _ _) hm1 (hO _ _ hR).2 ⟨Nat.le_of_ble_eq_true rfl, Nat.le_of_ble_eq_true rfl⟩ rfl rfl rfl (Nat.le_of_ble_eq_true rfl) ⟨Nat.le_of_ble_eq_true rfl, Nat.le_of_ble_eq_true rfl⟩ (fun H2 locs2 hI2 => ?_)
        refine lv_icmp_eq (tgt := 1111) hx hb dL_law_1060 (by decide) (fun _ => ?_) (fun hq => absurd rfl hq)
        exact hE H2 locs2 σc1 σm1 (LI.swap hI2) hR1
      by_cases hj30 : j = 30
      · subst hj30
        refine lv_tableIn (off := 1032) (tgt := 1065) hx hb dL_law_33 (by decide) (by decide) (by decide) (by decide) ?_
        obtain ⟨r, σc1, σm1, hc1, hm1, hR1⟩ := g30 σc σm (xs (x3 + 1).toNatClampNeg)  hR
        refine lv_aload_n hx hb dL_law_1065 rfl (lv_at hl 1 rfl) ?_
        refine lv_aload_n hx hb dL_law_1066 rfl (lv_at hl 0 rfl) ?_
        refine lv_iload_n hx hb dL_law_1067 rfl (lv_at hl 3 rfl) ?_
        refine lv_iconst (v := 1) hx hb dL_law_1068 (by decide) ?_
        refine lv_iadd hx hb dL_law_1069 ?_
        refine va_sld hx hb hX hbl hbA hI.2.2.2.2.2 v1 dL_law_1070 ?_
        refine lw_call (G1 := (l, D, qc, cy, aK, aV)) (G2 := (l, D, qm, cy, aK, aV)) (ci := 11) (M' := mX11_restore) (h' := 4) (As := [.int (xs (x3 + 1).toNatClampNeg)]) (rest := []) hx hb hml hown hts hXc hI hl.1 mfX11_restore mvX11_restore rfl ll_145 dL_law_1071 (kX11_restore (l, D, qc, cy, aK, aV) _ _ _) hc1 (hO _ _ hR).1 ⟨Nat.le_of_ble_eq_true rfl, Nat.le_of_ble_eq_true rfl⟩ rfl rfl rfl (Nat.le_of_ble_eq_true rfl) ⟨Nat.le_of_ble_eq_true rfl, Nat.le_of_ble_eq_true rfl⟩ (fun H1 locs1 hI1 => ?_)
        refine lv_aload_n hx hb dL_law_1074 rfl (lv_at hl 2 rfl) ?_
        refine lv_aload_n hx hb dL_law_1075 rfl (lv_at hl 0 rfl) ?_
        refine lv_iload_n hx hb dL_law_1076 rfl (lv_at hl 3 rfl) ?_
        refine lv_iconst (v := 1) hx hb dL_law_1077 (by decide) ?_
        refine lv_iadd hx hb dL_law_1078 ?_
        refine va_sld hx hb hX hbl hbA hI1.2.2.2.2.2 v1 dL_law_1079 ?_
        refine lw_call (G1 := (l, D, qm, cy, aK, aV)) (G2 := (l, D, qc, cy, aK, aV)) (ci := 12) (M' := mX12_restore) (h' := 2) (As := [.int (xs (x3 + 1).toNatClampNeg)]) (rest := [.int r]) hx hb hml hown hts hXm (LI.swap hI1) hl.1 mfX12_restore mvX12_restore rfl ll_148 dL_law_1080 (kX12_restore (l, D, qm, cy, aK, aV) _ _ _) hm1 (hO _ _ hR).2 ⟨Nat.le_of_ble_eq_true rfl, Nat.le_of_ble_eq_true rfl⟩ rfl rfl rfl (Nat.le_of_ble_eq_true rfl) ⟨Nat.le_of_ble_eq_true rfl, Nat.le_of_ble_eq_true rfl⟩ (fun H2 locs2 hI2 => ?_)
        refine lv_icmp_eq (tgt := 1111) hx hb dL_law_1083 (by decide) (fun _ => ?_) (fun hq => absurd rfl hq)
        exact hE H2 locs2 σc1 σm1 (LI.swap hI2) hR1
      by_cases hj31 : j = 31
      · subst hj31
        refine lv_tableIn (off := 1055) (tgt := 1088) hx hb dL_law_33 (by decide) (by decide) (by decide) (by decide) ?_
        obtain ⟨r, σc1, σm1, hc1, hm1, hR1⟩ := g31 σc σm (xs (x3 + 1).toNatClampNeg)  hR
        refine lv_aload_n hx hb dL_law_1088 rfl (lv_at hl 1 rfl) ?_
        refine lv_aload_n hx hb dL_law_1089 rfl (lv_at hl 0 rfl) ?_
        refine lv_iload_n hx hb dL_law_1090 rfl (lv_at hl 3 rfl) ?_
        refine lv_iconst (v := 1) hx hb dL_law_1091 (by decide) ?_
        refine lv_iadd hx hb dL_law_1092 ?_
        refine va_sld hx hb hX hbl hbA hI.2.2.2.2.2 v1 dL_law_1093 ?_
        refine lw_call (G1 := (l, D, qc, cy, aK, aV)) (G2 := (l, D, qm, cy, aK, aV)) (ci := 11) (M' := mX11_count) (h' := 3) (As := [.int (xs (x3 + 1).toNatClampNeg)]) (rest := []) hx hb hml hown hts hXc hI hl.1 mfX11_count mvX11_count rfl ll_149 dL_law_1094 (kX11_count (l, D, qc, cy, aK, aV) _ _ _) hc1 (hO _ _ hR).1 ⟨Nat.le_of_ble_eq_true rfl, Nat.le_of_ble_eq_true rfl⟩ rfl rfl rfl (Nat.le_of_ble_eq_true rfl) ⟨Nat.le_of_ble_eq_true rfl, Nat.le_of_ble_eq_true rfl⟩ (fun H1 locs1 hI1 => ?_)
        refine lv_aload_n hx hb dL_law_1097 rfl (lv_at hl 2 rfl) ?_
        refine lv_aload_n hx hb dL_law_1098 rfl (lv_at hl 0 rfl) ?_
        refine lv_iload_n hx hb dL_law_1099 rfl (lv_at hl 3 rfl) ?_
        refine lv_iconst (v := 1) hx hb dL_law_1100 (by decide) ?_
        refine lv_iadd hx hb dL_law_1101 ?_
        refine va_sld hx hb hX hbl hbA hI1.2.2.2.2.2 v1 dL_law_1102 ?_
        refine lw_call (G1 := (l, D, qm, cy, aK, aV)) (G2 := (l, D, qc, cy, aK, aV)) (ci := 12) (M' := mX12_count) (h' := 2) (As := [.int (xs (x3 + 1).toNatClampNeg)]) (rest := [.int r]) hx hb hml hown hts hXm (LI.swap hI1) hl.1 mfX12_count mvX12_count rfl ll_152 dL_law_1103 (kX12_count (l, D, qm, cy, aK, aV) _ _ _) hm1 (hO _ _ hR).2 ⟨Nat.le_of_ble_eq_true rfl, Nat.le_of_ble_eq_true rfl⟩ rfl rfl rfl (Nat.le_of_ble_eq_true rfl) ⟨Nat.le_of_ble_eq_true rfl, Nat.le_of_ble_eq_true rfl⟩ (fun H2 locs2 hI2 => ?_)
        refine lv_icmp_eq (tgt := 1111) hx hb dL_law_1106 (by decide) (fun _ => ?_) (fun hq => absurd rfl hq)
        exact hE H2 locs2 σc1 σm1 (LI.swap hI2) hR1
      omega
