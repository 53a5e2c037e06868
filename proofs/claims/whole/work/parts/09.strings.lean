abbrev u_coder : Mt := (yJ0_coder_7d493, cJ0_coder_7d493, 1, (some .byte))
theorem uf_coder : hs_MF u_coder 0 := ⟨(hs_inT 174 (by decide +kernel) rfl), (hs_inT 135 (by decide +kernel) rfl), by decide +kernel, by decide +kernel, by decide +kernel⟩
theorem uv_coder : Cond.instanceMethod u_coder.1 ∈ hs_T ∧ Cond.selects u_coder.1.cls u_coder.1 u_coder.1 ∈ hs_T := ⟨(hs_inT 172 (by decide +kernel) rfl), hs_inT 173 (by decide +kernel) rfl⟩
abbrev u_isLatin1 : Mt := (yJ0_isLatin1_aae02, cJ0_isLatin1_aae02, 1, (some .boolean))
theorem uf_isLatin1 : hs_MF u_isLatin1 0 := ⟨(hs_inT 184 (by decide +kernel) rfl), (hs_inT 135 (by decide +kernel) rfl), by decide +kernel, by decide +kernel, by decide +kernel⟩
theorem uv_isLatin1 : Cond.instanceMethod u_isLatin1.1 ∈ hs_T ∧ Cond.selects u_isLatin1.1.cls u_isLatin1.1 u_isLatin1.1 ∈ hs_T := ⟨(hs_inT 182 (by decide +kernel) rfl), hs_inT 183 (by decide +kernel) rfl⟩
abbrev u_length : Mt := (yJ0_length_8abf5, cJ0_length_8abf5, 1, (some .int))
theorem uf_length : hs_MF u_length 0 := ⟨(hs_inT 170 (by decide +kernel) rfl), (hs_inT 135 (by decide +kernel) rfl), by decide +kernel, by decide +kernel, by decide +kernel⟩
theorem uv_length : Cond.instanceMethod u_length.1 ∈ hs_T ∧ Cond.selects u_length.1.cls u_length.1 u_length.1 ∈ hs_T := ⟨(hs_inT 168 (by decide +kernel) rfl), hs_inT 169 (by decide +kernel) rfl⟩
abbrev u_charAt : Mt := (yJ0_charAt_5068e, cJ0_charAt_5068e, 2, (some .char))
theorem uf_charAt : hs_MF u_charAt 1 := ⟨(hs_inT 180 (by decide +kernel) rfl), (hs_inT 135 (by decide +kernel) rfl), by decide +kernel, by decide +kernel, by decide +kernel⟩
theorem uv_charAt : Cond.instanceMethod u_charAt.1 ∈ hs_T ∧ Cond.selects u_charAt.1.cls u_charAt.1 u_charAt.1 ∈ hs_T := ⟨(hs_inT 178 (by decide +kernel) rfl), hs_inT 179 (by decide +kernel) rfl⟩
abbrev u_lcharAt : Mt := (yJ1_charAt_3b067, cJ1_charAt_3b067, 2, (some .char))
theorem uf_lcharAt : hs_MF u_lcharAt 2 := ⟨(hs_inT 187 (by decide +kernel) rfl), (hs_inT 136 (by decide +kernel) rfl), by decide +kernel, by decide +kernel, by decide +kernel⟩
theorem us_lcharAt : Cond.static u_lcharAt.1 ∈ hs_T := (hs_inT 186 (by decide +kernel) rfl)
abbrev u_checkIndex : Mt := (yJ0_checkIndex_df160, cJ0_checkIndex_df160, 2, none)
theorem uf_checkIndex : hs_MF u_checkIndex 2 := ⟨(hs_inT 190 (by decide +kernel) rfl), (hs_inT 135 (by decide +kernel) rfl), by decide +kernel, by decide +kernel, by decide +kernel⟩
theorem us_checkIndex : Cond.static u_checkIndex.1 ∈ hs_T := (hs_inT 189 (by decide +kernel) rfl)
abbrev u_pcheck : Mt := (yJ3_checkIndex_8e157, cJ3_checkIndex_8e157, 3, (some .int))
theorem uf_pcheck : hs_MF u_pcheck 3 := ⟨(hs_inT 195 (by decide +kernel) rfl), (hs_inT 137 (by decide +kernel) rfl), by decide +kernel, by decide +kernel, by decide +kernel⟩
theorem us_pcheck : Cond.static u_pcheck.1 ∈ hs_T := (hs_inT 194 (by decide +kernel) rfl)
abbrev u_indexOf : Mt := (yJ0_indexOf_0f7a4, cJ0_indexOf_0f7a4, 2, (some .int))
theorem uf_indexOf : hs_MF u_indexOf 1 := ⟨(hs_inT 658 (by decide +kernel) rfl), (hs_inT 135 (by decide +kernel) rfl), by decide +kernel, by decide +kernel, by decide +kernel⟩
theorem uv_indexOf : Cond.instanceMethod u_indexOf.1 ∈ hs_T ∧ Cond.selects u_indexOf.1.cls u_indexOf.1 u_indexOf.1 ∈ hs_T := ⟨(hs_inT 656 (by decide +kernel) rfl), hs_inT 657 (by decide +kernel) rfl⟩
abbrev u_indexOf2 : Mt := (yJ0_indexOf_7cf53, cJ0_indexOf_7cf53, 3, (some .int))
theorem uf_indexOf2 : hs_MF u_indexOf2 2 := ⟨(hs_inT 662 (by decide +kernel) rfl), (hs_inT 135 (by decide +kernel) rfl), by decide +kernel, by decide +kernel, by decide +kernel⟩
theorem uv_indexOf2 : Cond.instanceMethod u_indexOf2.1 ∈ hs_T ∧ Cond.selects u_indexOf2.1.cls u_indexOf2.1 u_indexOf2.1 ∈ hs_T := ⟨(hs_inT 660 (by decide +kernel) rfl), hs_inT 661 (by decide +kernel) rfl⟩
abbrev u_lindexOf : Mt := (yJ1_indexOf_4cfef, cJ1_indexOf_4cfef, 4, (some .int))
theorem uf_lindexOf : hs_MF u_lindexOf 4 := ⟨(hs_inT 666 (by decide +kernel) rfl), (hs_inT 136 (by decide +kernel) rfl), by decide +kernel, by decide +kernel, by decide +kernel⟩
theorem us_lindexOf : Cond.static u_lindexOf.1 ∈ hs_T := (hs_inT 665 (by decide +kernel) rfl)
abbrev u_canEncode : Mt := (yJ1_canEncode_9a6ad, cJ1_canEncode_9a6ad, 1, (some .boolean))
theorem uf_canEncode : hs_MF u_canEncode 1 := ⟨(hs_inT 669 (by decide +kernel) rfl), (hs_inT 136 (by decide +kernel) rfl), by decide +kernel, by decide +kernel, by decide +kernel⟩
theorem us_canEncode : Cond.static u_canEncode.1 ∈ hs_T := (hs_inT 668 (by decide +kernel) rfl)
abbrev u_ixChar : Mt := (yJ1_indexOfChar_4cfef, cJ1_indexOfChar_4cfef, 6, (some .int))
theorem uf_ixChar : hs_MF u_ixChar 4 := ⟨(hs_inT 678 (by decide +kernel) rfl), (hs_inT 136 (by decide +kernel) rfl), by decide +kernel, by decide +kernel, by decide +kernel⟩
theorem us_ixChar : Cond.static u_ixChar.1 ∈ hs_T := (hs_inT 677 (by decide +kernel) rfl)
abbrev u_max : Mt := (yJ9_max_7cf53, cJ9_max_7cf53, 2, (some .int))
theorem uf_max : hs_MF u_max 2 := ⟨(hs_inT 672 (by decide +kernel) rfl), (hs_inT 150 (by decide +kernel) rfl), by decide +kernel, by decide +kernel, by decide +kernel⟩
theorem us_max : Cond.static u_max.1 ∈ hs_T := (hs_inT 671 (by decide +kernel) rfl)
abbrev u_min : Mt := (yJ9_min_7cf53, cJ9_min_7cf53, 2, (some .int))
theorem uf_min : hs_MF u_min 2 := ⟨(hs_inT 675 (by decide +kernel) rfl), (hs_inT 150 (by decide +kernel) rfl), by decide +kernel, by decide +kernel, by decide +kernel⟩
theorem us_min : Cond.static u_min.1 ∈ hs_T := (hs_inT 674 (by decide +kernel) rfl)
theorem ul_coder : Cond.methodLink "java/lang/String" 335 u_coder.1 ∈ hs_T := (hs_inT 171 (by decide +kernel) rfl)
theorem ul_lat : Cond.methodLink "java/lang/String" 492 u_isLatin1.1 ∈ hs_T := (hs_inT 181 (by decide +kernel) rfl)
theorem ul_lch : Cond.methodLink "java/lang/String" 495 u_lcharAt.1 ∈ hs_T := (hs_inT 185 (by decide +kernel) rfl)
theorem ul_chk : Cond.methodLink "java/lang/StringLatin1" 9 u_checkIndex.1 ∈ hs_T := (hs_inT 188 (by decide +kernel) rfl)
theorem ul_pck : Cond.methodLink "java/lang/String" 1059 u_pcheck.1 ∈ hs_T := (hs_inT 193 (by decide +kernel) rfl)
theorem ul_ix2 : Cond.methodLink "java/lang/String" 633 u_indexOf2.1 ∈ hs_T := (hs_inT 659 (by decide +kernel) rfl)
theorem ul_len : Cond.methodLink "java/lang/String" 505 u_length.1 ∈ hs_T := (hs_inT 663 (by decide +kernel) rfl)
theorem ul_lix : Cond.methodLink "java/lang/String" 637 u_lindexOf.1 ∈ hs_T := (hs_inT 664 (by decide +kernel) rfl)
theorem ul_can : Cond.methodLink "java/lang/StringLatin1" 88 u_canEncode.1 ∈ hs_T := (hs_inT 667 (by decide +kernel) rfl)
theorem ul_max : Cond.methodLink "java/lang/StringLatin1" 92 u_max.1 ∈ hs_T := (hs_inT 670 (by decide +kernel) rfl)
theorem ul_min : Cond.methodLink "java/lang/StringLatin1" 38 u_min.1 ∈ hs_T := (hs_inT 673 (by decide +kernel) rfl)
theorem ul_ixc : Cond.methodLink "java/lang/StringLatin1" 95 u_ixChar.1 ∈ hs_T := (hs_inT 676 (by decide +kernel) rfl)
theorem ul_tlen : Cond.methodLink "EdgePile$Tokens" 31 u_length.1 ∈ hs_T := (hs_inT 167 (by decide +kernel) rfl)
theorem ul_tch : Cond.methodLink "EdgePile$Tokens" 37 u_charAt.1 ∈ hs_T := (hs_inT 177 (by decide +kernel) rfl)
theorem ul_tix : Cond.methodLink "EdgePile$Tokens" 71 u_indexOf.1 ∈ hs_T := (hs_inT 655 (by decide +kernel) rfl)
theorem ug_cs : Cond.fieldLink "java/lang/String" 38 "java/lang/String" "COMPACT_STRINGS" "Z" ∈ hs_T := (hs_inT 175 (by decide +kernel) rfl)
theorem ug_cod : Cond.fieldLink "java/lang/String" 15 "java/lang/String" "coder" "B" ∈ hs_T := (hs_inT 1757 (by decide +kernel) rfl)
theorem ug_val : Cond.fieldLink "java/lang/String" 9 "java/lang/String" "value" "[B" ∈ hs_T := (hs_inT 1756 (by decide +kernel) rfl)
theorem ug_sio : Cond.fieldLink "java/lang/String" 1053 "jdk/internal/util/Preconditions" "SIOOBE_FORMATTER" "Ljava/util/function/BiFunction;" ∈ hs_T := (hs_inT 191 (by decide +kernel) rfl)
theorem dJ3_checkIndex_8e157_0 : decode cJ3_checkIndex_8e157 0 = .ok (.iload_n 0, 1) := by decide +kernel
theorem dJ3_checkIndex_8e157_1 : decode cJ3_checkIndex_8e157 1 = .ok (.ifCond .lt 8, 3) := by decide +kernel
theorem dJ3_checkIndex_8e157_4 : decode cJ3_checkIndex_8e157 4 = .ok (.iload_n 0, 1) := by decide +kernel
theorem dJ3_checkIndex_8e157_5 : decode cJ3_checkIndex_8e157 5 = .ok (.iload_n 1, 1) := by decide +kernel
theorem dJ3_checkIndex_8e157_6 : decode cJ3_checkIndex_8e157 6 = .ok (.if_icmp .lt 10, 3) := by decide +kernel
theorem dJ3_checkIndex_8e157_9 : decode cJ3_checkIndex_8e157 9 = .ok (.aload_n 2, 1) := by decide +kernel
theorem dJ3_checkIndex_8e157_10 : decode cJ3_checkIndex_8e157 10 = .ok (.iload_n 0, 1) := by decide +kernel
theorem dJ3_checkIndex_8e157_11 : decode cJ3_checkIndex_8e157 11 = .ok (.iload_n 1, 1) := by decide +kernel
theorem dJ3_checkIndex_8e157_16 : decode cJ3_checkIndex_8e157 16 = .ok (.iload_n 0, 1) := by decide +kernel
theorem dJ3_checkIndex_8e157_17 : decode cJ3_checkIndex_8e157 17 = .ok (.ireturn, 1) := by decide +kernel
/-! ===== methods that only read ===== -/
def ro_Q (r : Option Value) : Array Value → State → Outcome → State → Prop := fun _ st oc t => oc = .returned r ∧ t.heap = st.heap
def MeR (G : GP) (M : Mt) (h : Nat) (av : List Value) (r : Option Value) : Prop := Met G.1 M.1 (.code M.1 M.2.1 M.2.2.1 M.2.2.2 :: hs_T) (hs_R h 0 0) (va_Pc av (fun U => ∃ A, hs_S G.2.2.2.2.1 G.2.2.2.2.2 A U U.heap)) (ro_Q r) 0 0 (fun _ => False)
def ro_C (G : GP) (M : Mt) (A : Nat → Prop) (p : Program) (s : State) (m : MethodId) (args : Array Value) (meth : Method) (c : Code) : Prop := p.tables.exec = Jvm.exec ∧ c.code = M.2.1 ∧ meth.sig.returnType = M.2.2.2 ∧ c.maxLocals = M.2.2.1 ∧ s.vm.findClass M.1.cls = some m.cls ∧ (∀ w ∈ hs_T, w.before args s = true) ∧ meth.locks = false ∧ hs_S G.2.2.2.2.1 G.2.2.2.2.2 A s s.heap
theorem hs_S.warm {aK aV : Nat → Nat} {A : Nat → Prop} {s U : State} {H : Heap} (hW : s.WarmedH U.vm) (h : hs_S aK aV A s H) : hs_S aK aV A U H := ⟨vk_R.warm hW h.1, vk_R.warm hW h.2.1, vk_S.moved hW.alike h.2.2.1, va_Z.moved hW.alike h.2.2.2.1, va_Zq.moved hW.alike h.2.2.2.2⟩
theorem hs_S.same {aK aV : Nat → Nat} {A : Nat → Prop} {u U : State} {H : Heap} (hv : U.vm = u.vm) (h : hs_S aK aV A u H) : hs_S aK aV A U H := by
  have ha : u.vm.Alike U.vm := by rw [hv]; exact Vm.Alike.refl _
  exact ⟨vk_R.same hv h.1, vk_R.same hv h.2.1, vk_S.moved ha h.2.2.1, va_Z.moved ha h.2.2.2.1, va_Zq.moved ha h.2.2.2.2⟩
theorem hs_S.kept {aK aV : Nat → Nat} {A : Nat → Prop} {U : State} {H H1 : Heap} (h : hs_S aK aV A U H) (hq : ∀ a : Nat, a < H.size → ¬ A a → H1[a]? = H[a]?) : hs_S aK aV A U H1 := ⟨h.1, h.2.1, h.2.2.1.kept hq, h.2.2.2.1.kept hq, h.2.2.2.2.kept hq⟩
theorem ro_of {G : GP} {M : Mt} {h : Nat} {av : List Value} {r : Option Value} {lv : List (Nat × Value)} (hy : plainFor M.1 = true) (hlen : (lg_sl av).length ≤ M.2.2.1) (hlv : lv_args 0 av = lv) (k : ∀ (A : Nat → Prop) (p : Program) (e : Env) (s : State) (m : MethodId) (below : List Frame) (meth : Method) (c : Code) (ls : Array Slot), ro_C G M A p s m av.toArray meth c → lv_has ls M.2.2.1 lv → W p G.1 e (hs_R h 0 0) s m av.toArray below meth c s.heap [] 0 0 (MQ below (ro_Q r) av.toArray s 0 0 (fun _ => False)) (F0 m 0 ls [])) : MeR G M h av r := by
  refine hs_ofW (cc := M.2.1) (maxL := M.2.2.1) (ret := M.2.2.2) hy rfl ?_
  intro p e s m args below meth c s₁ B hml hv
  obtain ⟨rfl, A, hS⟩ := hv
  have hts := atoms_spec (ws := .code M.1 M.2.1 M.2.2.1 M.2.2.2 :: hs_T) B.pre
  have hl := lv_entry av hlen
  rw [hlv] at hl
  rw [lg_entry_eq]
  exact k A p e s m below meth c _ ⟨B.exec, B.bytes, B.returns, hml, findClass_of_methodNamed B.named, fun w hw => hts w (List.mem_cons_of_mem _ hw), B.notSynchronized, hS⟩ hl
section RO
variable {G : GP} {p : Program} {e : Env} {s : State} {m : MethodId} {args : Array Value} {below : List Frame} {meth : Method} {c : Code} {H : Heap} {locs : List Loc} {ls : Array Slot} {Q : State → Prop} {R : Room} {cells slots pc : Nat} {cc : ByteArray} {A : Nat → Prop}
theorem ro_after {a : Array Value} {r : Option Value} {st0 rest : List Value} (hrun : va_Run p G.1 e R s m args below meth c H locs cells slots 0 0 (F0 m pc ls st0) rest (ro_Q r a) (fun _ => False)) (kk : W p G.1 e R s m args below meth c H locs cells slots Q (F0 m (pc + 3) ls (r.toList ++ rest))) : W p G.1 e R s m args below meth c H locs cells slots Q (F0 m pc ls st0) := by
  intro T hT X
  obtain ⟨v, st₀, t, T', L, h0, X', hL, e1, e2, ⟨hv, hh⟩, stp⟩ := hrun T hT X
  have hL0 : L = [] := by
    cases L with
    | nil => rfl
    | cons q _ => exact (hL q List.mem_cons_self).elim
  subst hL0
  rw [List.append_nil] at X'
  cases hv
  obtain ⟨t2, a1, b1⟩ := kk T' (by rw [e1, hh, h0]) X'
  exact ⟨t2, stp t2 a1, b1⟩
theorem ro_pre {av : List Value} (hSx : hs_S G.2.2.2.2.1 G.2.2.2.2.2 A s s.heap) (hS : va_S A s.heap H locs) : PreS s H (va_Pc av (fun U => ∃ A, hs_S G.2.2.2.2.1 G.2.2.2.2.2 A U U.heap)) av := by
  refine ⟨fun a U g mk hq => ?_, fun U hU hW => ⟨rfl, A, ?_⟩⟩
  · obtain ⟨q1, A1, q2⟩ := hq
    exact ⟨q1, A1, hs_S.same (u := U) rfl q2⟩
  · rw [hU]
    exact (hSx.kept hS.2.1).warm hW
theorem ro_callS {M' : Mt} {h' idx nL : Nat} {own : String} {As rest st0 : List Value} {r : Option Value} (hx : p.tables.exec = Jvm.exec) (hb : c.code = cc) (hml : c.maxLocals = nL) (hown : s.vm.findClass own = some m.cls) (hts : ∀ w ∈ hs_T, w.before args s = true) (hSx : hs_S G.2.2.2.2.1 G.2.2.2.2.2 A s s.heap) (hS : va_S A s.heap H locs) (hls : ls.size = nL) (hF : hs_MF M' As.length) (hV : Cond.static M'.1 ∈ hs_T) (hL : Cond.methodLink own idx M'.1 ∈ hs_T) (hd : decode cc pc = .ok (.invokestatic idx, 3)) (hMe : MeR G M' h' As r) (hR : h' + 1 ≤ R.frames ∧ 8 + (M'.2.2.1 + 11) + 64 * h' ≤ R.locals) (hst : st0 = As.reverse ++ rest) (hsum : (rest.map fun v => v.category).sum ≤ 8) (hk : cells ≤ R.cells ∧ slots ≤ R.slots)
    (kk : W p G.1 e R s m args below meth c H locs cells slots Q (F0 m (pc + 3) ls (r.toList ++ rest))) : W p G.1 e R s m args below meth c H locs cells slots Q (F0 m pc ls st0) := by
  subst hst
  obtain ⟨f1, f2, f3, f4, f5⟩ := hF
  exact ro_after (va_runS (As := As) (n := As.length) (Ts := hs_T) (own := own) ⟨hx, hb, hml, hown, hts⟩ hMe ⟨callB_of As.length hts (hs_good f1) rfl rfl rfl (hts _ f2) (hts _ hL) ⟨f3, f4, f5⟩ hR, hts _ hV⟩ (ro_pre hSx hS) rfl rfl hls rfl (lv_room hsum) hd hk) kk
theorem ro_callV {M' : Mt} {h' idx nL i : Nat} {own : String} {As rest st0 : List Value} {r : Option Value} (hx : p.tables.exec = Jvm.exec) (hb : c.code = cc) (hml : c.maxLocals = nL) (hown : s.vm.findClass own = some m.cls) (hts : ∀ w ∈ hs_T, w.before args s = true) (hSx : hs_S G.2.2.2.2.1 G.2.2.2.2.2 A s s.heap) (hS : va_S A s.heap H locs) (hls : ls.size = nL) (hF : hs_MF M' As.length) (hV : Cond.instanceMethod M'.1 ∈ hs_T ∧ Cond.selects M'.1.cls M'.1 M'.1 ∈ hs_T) (hcl : M'.1.cls = "java/lang/String") (hi : i < 2) (hL : Cond.methodLink own idx M'.1 ∈ hs_T) (hd : decode cc pc = .ok (.invokevirtual idx, 3)) (hMe : MeR G M' h' (.ref (G.2.2.2.2.1 i) :: As) r) (hR : h' + 1 ≤ R.frames ∧ 8 + (M'.2.2.1 + 11) + 64 * h' ≤ R.locals) (hst : st0 = As.reverse ++ .ref (G.2.2.2.2.1 i) :: rest) (hsum : (rest.map fun v => v.category).sum ≤ 8) (hk : cells ≤ R.cells ∧ slots ≤ R.slots)
    (kk : W p G.1 e R s m args below meth c H locs cells slots Q (F0 m (pc + 3) ls (r.toList ++ rest))) : W p G.1 e R s m args below meth c H locs cells slots Q (F0 m pc ls st0) := by
  subst hst
  obtain ⟨f1, f2, f3, f4, f5⟩ := hF
  have hrecv := vk_recv hSx.2.2.1 hi hS
  rw [← hcl] at hrecv
  have hpre := ro_pre (G := G) (av := .ref (G.2.2.2.2.1 i) :: As) hSx hS
  exact ro_after (va_runV (As := As) (n := As.length) (Ts := hs_T) (own := own) (C := M'.1.cls) (b := G.2.2.2.2.1 i) ⟨hx, hb, hml, hown, hts⟩ hMe ⟨callB_of As.length hts (hs_good f1) rfl rfl rfl (hts _ f2) (hts _ hL) ⟨f3, f4, f5⟩ hR, hts _ hV.1, hts _ hV.2⟩ ⟨hpre.1, hrecv, hpre.2⟩ rfl rfl hls rfl (lv_room hsum) hd hk) kk
end RO
set_option maxHeartbeats 1000000 in
theorem ro_coder (G : GP) (i : Nat) (hi : i < 2) : MeR G u_coder 1 [.ref (G.2.2.2.2.1 i)] (some (.int 0)) := by
  refine ro_of (lv := [(0, .ref (G.2.2.2.2.1 i))]) (by decide +kernel) (Nat.le_of_ble_eq_true rfl) rfl ?_
  intro A p e s m below meth c ls hC hl
  obtain ⟨hx, hb, hr, hml, hown, hts, hlk, hSx⟩ := hC
  have hE := hSx.2.2.1.1 i hi
  refine va_gets (ref := "java/lang/String") hx hb hSx.2.2.2.1 va_S.rf hown (hts _ ug_cs) (fun _ z => z) dJ0_coder_7d493_0 ?_
  refine lv_if_eq (tgt := 13) hx hb dJ0_coder_7d493_3 (by decide) (fun z => absurd z (by decide)) (fun _ => ?_)
  refine lv_aload_n hx hb dJ0_coder_7d493_6 rfl (lv_at hl 0 rfl) ?_
  refine vk_getf (ref := "java/lang/String") hx hb hE.2.1 va_S.rf hown (hts _ ug_cod) (fun _ z => z) dJ0_coder_7d493_7 ?_
  refine lv_goto (tgt := 14) hx hb dJ0_coder_7d493_10 (by decide) ?_
  exact W.zret hx hb hr rfl (fun t ht _ => ⟨rfl, ht⟩) (fun q hq => by cases hq) dJ0_coder_7d493_14 hlk
set_option maxHeartbeats 1000000 in
theorem ro_isLatin1 (G : GP) (i : Nat) (hi : i < 2) : MeR G u_isLatin1 1 [.ref (G.2.2.2.2.1 i)] (some (.int 1)) := by
  refine ro_of (lv := [(0, .ref (G.2.2.2.2.1 i))]) (by decide +kernel) (Nat.le_of_ble_eq_true rfl) rfl ?_
  intro A p e s m below meth c ls hC hl
  obtain ⟨hx, hb, hr, hml, hown, hts, hlk, hSx⟩ := hC
  have hE := hSx.2.2.1.1 i hi
  refine va_gets (ref := "java/lang/String") hx hb hSx.2.2.2.1 va_S.rf hown (hts _ ug_cs) (fun _ z => z) dJ0_isLatin1_aae02_0 ?_
  refine lv_if_eq (tgt := 17) hx hb dJ0_isLatin1_aae02_3 (by decide) (fun z => absurd z (by decide)) (fun _ => ?_)
  refine lv_aload_n hx hb dJ0_isLatin1_aae02_6 rfl (lv_at hl 0 rfl) ?_
  refine vk_getf (ref := "java/lang/String") hx hb hE.2.1 va_S.rf hown (hts _ ug_cod) (fun _ z => z) dJ0_isLatin1_aae02_7 ?_
  refine lv_if_ne (tgt := 17) hx hb dJ0_isLatin1_aae02_10 (by decide) (fun z => absurd rfl z) (fun _ => ?_)
  refine lv_iconst (v := 1) hx hb dJ0_isLatin1_aae02_13 (by decide) ?_
  refine lv_goto (tgt := 18) hx hb dJ0_isLatin1_aae02_14 (by decide) ?_
  exact W.zret hx hb hr rfl (fun t ht _ => ⟨rfl, ht⟩) (fun q hq => by cases hq) dJ0_isLatin1_aae02_18 hlk
set_option maxHeartbeats 1000000 in
theorem ro_length (G : GP) (i : Nat) (hi : i < 2) : MeR G u_length 2 [.ref (G.2.2.2.2.1 i)] (some (.int (nI (hs_len.getD i 0)))) := by
  refine ro_of (lv := [(0, .ref (G.2.2.2.2.1 i))]) (by decide +kernel) (Nat.le_of_ble_eq_true rfl) rfl ?_
  intro A p e s m below meth c ls hC hl
  obtain ⟨hx, hb, hr, hml, hown, hts, hlk, hSx⟩ := hC
  have hE := hSx.2.2.1.1 i hi
  refine lv_aload_n hx hb dJ0_length_8abf5_0 rfl (lv_at hl 0 rfl) ?_
  refine vk_getf (ref := "java/lang/String") hx hb hE.2.2.1 va_S.rf hown (hts _ ug_val) (fun _ z => z) dJ0_length_8abf5_1 ?_
  refine va_tlen (v := nI (hs_len.getD i 0)) hx hb hE.2.2.2 va_S.rf rfl dJ0_length_8abf5_4 ?_
  refine lv_aload_n hx hb dJ0_length_8abf5_5 rfl (lv_at hl 0 rfl) ?_
  refine ro_callV (M' := u_coder) (h' := 1) (i := i) (As := []) (rest := [.int (nI (hs_len.getD i 0))]) hx hb hml hown hts hSx va_S.rf hl.1 uf_coder uv_coder rfl hi ul_coder dJ0_length_8abf5_6 (ro_coder G i hi) ⟨Nat.le_of_ble_eq_true rfl, Nat.le_of_ble_eq_true rfl⟩ rfl (Nat.le_of_ble_eq_true rfl) ⟨Nat.le_refl _, Nat.le_refl _⟩ ?_
  refine lv_ishr hx hb dJ0_length_8abf5_9 ?_
  have hlen : nI (hs_len.getD i 0) >>> ((0 : Int32) &&& 31) = nI (hs_len.getD i 0) := by
    rcases (show i = 0 ∨ i = 1 by omega) with rfl | rfl <;> decide
  rw [hlen]
  exact W.iret hx hb hr (fun t ht _ => ⟨rfl, ht⟩) (fun q hq => by cases hq) dJ0_length_8abf5_10 hlk
set_option maxHeartbeats 1000000 in
theorem ro_pcheck (G : GP) (x n : Int32) (v : Value) (hv : v.category = 1) (h0 : ¬ x < 0) (h1 : x < n) : MeR G u_pcheck 1 [.int x, .int n, v] (some (.int x)) := by
  refine ro_of (lv := [(0, .int x), (1, .int n), (2, v)]) (by decide +kernel) (by cases v <;> simp [lg_sl, Value.category] at hv ⊢) (by simp [lv_args, Value.category]) ?_
  intro A p e s m below meth c ls hC hl
  obtain ⟨hx, hb, hr, hml, hown, hts, hlk, hSx⟩ := hC
  refine lv_iload_n hx hb dJ3_checkIndex_8e157_0 rfl (lv_at hl 0 rfl) ?_
  refine lv_if_lt (tgt := 9) hx hb dJ3_checkIndex_8e157_1 (by decide) (fun z => absurd z h0) (fun _ => ?_)
  refine lv_iload_n hx hb dJ3_checkIndex_8e157_4 rfl (lv_at hl 0 rfl) ?_
  refine lv_iload_n hx hb dJ3_checkIndex_8e157_5 rfl (lv_at hl 1 rfl) ?_
  refine lv_icmp_lt (tgt := 16) hx hb dJ3_checkIndex_8e157_6 (by decide) (fun _ => ?_) (fun z => absurd h1 z)
  refine lv_iload_n hx hb dJ3_checkIndex_8e157_16 rfl (lv_at hl 0 rfl) ?_
  exact W.iret hx hb hr (fun t ht _ => ⟨rfl, ht⟩) (fun q hq => by cases hq) dJ3_checkIndex_8e157_17 hlk
set_option maxHeartbeats 1000000 in
theorem ro_checkIndex (G : GP) (x n : Int32) (h0 : ¬ x < 0) (h1 : x < n) : MeR G u_checkIndex 2 [.int x, .int n] none := by
  refine ro_of (lv := [(0, .int x), (1, .int n)]) (by decide +kernel) (Nat.le_of_ble_eq_true rfl) rfl ?_
  intro A p e s m below meth c ls hC hl
  obtain ⟨hx, hb, hr, hml, hown, hts, hlk, hSx⟩ := hC
  refine lv_iload_n hx hb dJ0_checkIndex_df160_0 rfl (lv_at hl 0 rfl) ?_
  refine lv_iload_n hx hb dJ0_checkIndex_df160_1 rfl (lv_at hl 1 rfl) ?_
  have go : ∀ v : Value, v.category = 1 → va_Z "jdk/internal/util/Preconditions" "SIOOBE_FORMATTER" "Ljava/util/function/BiFunction;" v A s s.heap → W p G.1 e (hs_R 2 0 0) s m [Value.int x, Value.int n].toArray below meth c s.heap [] 0 0 (MQ below (ro_Q none) [Value.int x, Value.int n].toArray s 0 0 (fun _ => False)) (F0 m (0 + 1 + 1) ls [.int n, .int x]) := by
    intro v hv hZ
    refine va_gets (ref := "jdk/internal/util/Preconditions") hx hb hZ va_S.rf hown (hts _ ug_sio) (fun _ z => z) dJ0_checkIndex_df160_2 ?_
    refine ro_callS (M' := u_pcheck) (h' := 1) (As := [.int x, .int n, v]) (rest := []) hx hb hml hown hts hSx va_S.rf hl.1 uf_pcheck us_pcheck ul_pck dJ0_checkIndex_df160_5 (ro_pcheck G x n v hv h0 h1) ⟨Nat.le_of_ble_eq_true rfl, Nat.le_of_ble_eq_true rfl⟩ rfl (Nat.le_of_ble_eq_true rfl) ⟨Nat.le_refl _, Nat.le_refl _⟩ ?_
    refine lv_pop hx hb dJ0_checkIndex_df160_8 rfl ?_
    exact W.vret hx hb hr (fun t ht _ => ⟨rfl, ht⟩) (fun q hq => by cases hq) dJ0_checkIndex_df160_9 hlk
  rcases hSx.2.2.2.2 with hZ | ⟨t, hZ⟩
  · exact go _ rfl hZ
  · exact go _ rfl hZ
set_option maxHeartbeats 1000000 in
theorem ro_lcharAt (G : GP) (i : Nat) (hi : i < 2) (x : Int32) (h0 : ¬ x < 0) (h1 : x < nI (hs_len.getD i 0)) (hn : ∀ k, k < hs_len.getD i 0 → narrow .char (.int ((((hs_byt.getD i []).getD k 0) &&& 255).toUInt32 % 65536).toInt32) = .int ((((hs_byt.getD i []).getD k 0) &&& 255).toUInt32 % 65536).toInt32) : MeR G u_lcharAt 3 [.ref (G.2.2.2.2.2 i), .int x] (some (.int ((((hs_byt.getD i []).getD x.toNatClampNeg 0) &&& 255).toUInt32 % 65536).toInt32)) := by
  refine ro_of (lv := [(0, .ref (G.2.2.2.2.2 i)), (1, .int x)]) (by decide +kernel) (Nat.le_of_ble_eq_true rfl) rfl ?_
  intro A p e s m below meth c ls hC hl
  obtain ⟨hx, hb, hr, hml, hown, hts, hlk, hSx⟩ := hC
  have hE := hSx.2.2.1.1 i hi
  have hlt : x.toNatClampNeg < hs_len.getD i 0 ∧ vp_in x (hs_len.getD i 0) := by
    have hl2 : hs_len.getD i 0 < 2 ^ 31 := by rcases (show i = 0 ∨ i = 1 by omega) with rfl | rfl <;> decide
    obtain ⟨j, hj, rfl⟩ := nI_of h0
    have hj2 : j < hs_len.getD i 0 := (nI_ltI hj hl2).mp h1
    rw [nI_clamp hj]
    exact ⟨hj2, vp_in_nI hj2 hl2⟩
  refine lv_iload_n hx hb dJ1_charAt_3b067_0 rfl (lv_at hl 1 rfl) ?_
  refine lv_aload_n hx hb dJ1_charAt_3b067_1 rfl (lv_at hl 0 rfl) ?_
  refine va_tlen (v := nI (hs_len.getD i 0)) hx hb hE.2.2.2 va_S.rf rfl dJ1_charAt_3b067_2 ?_
  refine ro_callS (M' := u_checkIndex) (h' := 2) (As := [.int x, .int (nI (hs_len.getD i 0))]) (rest := []) hx hb hml hown hts hSx va_S.rf hl.1 uf_checkIndex us_checkIndex ul_chk dJ1_charAt_3b067_3 (ro_checkIndex G x _ h0 h1) ⟨Nat.le_of_ble_eq_true rfl, Nat.le_of_ble_eq_true rfl⟩ rfl (Nat.le_of_ble_eq_true rfl) ⟨Nat.le_refl _, Nat.le_refl _⟩ ?_
  refine lv_aload_n hx hb dJ1_charAt_3b067_6 rfl (lv_at hl 0 rfl) ?_
  refine lv_iload_n hx hb dJ1_charAt_3b067_7 rfl (lv_at hl 1 rfl) ?_
  refine va_tb hx hb hE.2.2.2 va_S.rf hlt.2 rfl dJ1_charAt_3b067_8 ?_
  refine lv_sipush (v := 255) hx hb dJ1_charAt_3b067_9 (by decide) ?_
  refine lv_iand hx hb dJ1_charAt_3b067_12 ?_
  refine lv_i2c hx hb dJ1_charAt_3b067_13 rfl ?_
  exact W.zret hx hb hr (hn _ hlt.1) (fun t ht _ => ⟨rfl, ht⟩) (fun q hq => by cases hq) dJ1_charAt_3b067_14 hlk
set_option maxHeartbeats 1000000 in
theorem ro_charAt (G : GP) (i : Nat) (hi : i < 2) (x : Int32) (h0 : ¬ x < 0) (h1 : x < nI (hs_len.getD i 0)) (hlt : x.toNatClampNeg < hs_len.getD i 0) (hn : ∀ k, k < hs_len.getD i 0 → narrow .char (.int ((((hs_byt.getD i []).getD k 0) &&& 255).toUInt32 % 65536).toInt32) = .int ((((hs_byt.getD i []).getD k 0) &&& 255).toUInt32 % 65536).toInt32) : MeR G u_charAt 4 [.ref (G.2.2.2.2.1 i), .int x] (some (.int ((((hs_byt.getD i []).getD x.toNatClampNeg 0) &&& 255).toUInt32 % 65536).toInt32)) := by
  refine ro_of (lv := [(0, .ref (G.2.2.2.2.1 i)), (1, .int x)]) (by decide +kernel) (Nat.le_of_ble_eq_true rfl) rfl ?_
  intro A p e s m below meth c ls hC hl
  obtain ⟨hx, hb, hr, hml, hown, hts, hlk, hSx⟩ := hC
  have hE := hSx.2.2.1.1 i hi
  refine lv_aload_n hx hb dJ0_charAt_5068e_0 rfl (lv_at hl 0 rfl) ?_
  refine ro_callV (M' := u_isLatin1) (h' := 1) (i := i) (As := []) (rest := []) hx hb hml hown hts hSx va_S.rf hl.1 uf_isLatin1 uv_isLatin1 rfl hi ul_lat dJ0_charAt_5068e_1 (ro_isLatin1 G i hi) ⟨Nat.le_of_ble_eq_true rfl, Nat.le_of_ble_eq_true rfl⟩ rfl (Nat.le_of_ble_eq_true rfl) ⟨Nat.le_refl _, Nat.le_refl _⟩ ?_
  refine lv_if_eq (tgt := 16) hx hb dJ0_charAt_5068e_4 (by decide) (fun z => absurd z (by decide)) (fun _ => ?_)
  refine lv_aload_n hx hb dJ0_charAt_5068e_7 rfl (lv_at hl 0 rfl) ?_
  refine vk_getf (ref := "java/lang/String") hx hb hE.2.2.1 va_S.rf hown (hts _ ug_val) (fun _ z => z) dJ0_charAt_5068e_8 ?_
  refine lv_iload_n hx hb dJ0_charAt_5068e_11 rfl (lv_at hl 1 rfl) ?_
  refine ro_callS (M' := u_lcharAt) (h' := 3) (As := [.ref (G.2.2.2.2.2 i), .int x]) (rest := []) hx hb hml hown hts hSx va_S.rf hl.1 uf_lcharAt us_lcharAt ul_lch dJ0_charAt_5068e_12 (ro_lcharAt G i hi x h0 h1 hn) ⟨Nat.le_of_ble_eq_true rfl, Nat.le_of_ble_eq_true rfl⟩ rfl (Nat.le_of_ble_eq_true rfl) ⟨Nat.le_refl _, Nat.le_refl _⟩ ?_
  exact W.zret hx hb hr (hn _ hlt) (fun t ht _ => ⟨rfl, ht⟩) (fun q hq => by cases hq) dJ0_charAt_5068e_15 hlk
set_option maxHeartbeats 1000000 in
theorem ro_canEncode (G : GP) (x : Int32) : MeR G u_canEncode 1 [.int x] (some (.int (if x < 0 ∨ 255 < x then 0 else 1))) := by
  refine ro_of (lv := [(0, .int x)]) (by decide +kernel) (Nat.le_of_ble_eq_true rfl) rfl ?_
  intro A p e s m below meth c ls hC hl
  obtain ⟨hx, hb, hr, hml, hown, hts, hlk, hSx⟩ := hC
  refine lv_iload_n hx hb dJ1_canEncode_9a6ad_0 rfl (lv_at hl 0 rfl) ?_
  refine lv_if_lt (tgt := 15) hx hb dJ1_canEncode_9a6ad_1 (by decide) (fun z => ?_) (fun z => ?_)
  · refine lv_iconst (v := 0) hx hb dJ1_canEncode_9a6ad_15 (by decide) ?_
    rw [if_pos (Or.inl z)]
    exact W.zret hx hb hr rfl (fun t ht _ => ⟨rfl, ht⟩) (fun q hq => by cases hq) dJ1_canEncode_9a6ad_16 hlk
  · refine lv_iload_n hx hb dJ1_canEncode_9a6ad_4 rfl (lv_at hl 0 rfl) ?_
    refine lv_sipush (v := 255) hx hb dJ1_canEncode_9a6ad_5 (by decide) ?_
    refine lv_icmp_gt (tgt := 15) hx hb dJ1_canEncode_9a6ad_8 (by decide) (fun z2 => ?_) (fun z2 => ?_)
    · refine lv_iconst (v := 0) hx hb dJ1_canEncode_9a6ad_15 (by decide) ?_
      rw [if_pos (Or.inr z2)]
      exact W.zret hx hb hr rfl (fun t ht _ => ⟨rfl, ht⟩) (fun q hq => by cases hq) dJ1_canEncode_9a6ad_16 hlk
    · refine lv_iconst (v := 1) hx hb dJ1_canEncode_9a6ad_11 (by decide) ?_
      refine lv_goto (tgt := 16) hx hb dJ1_canEncode_9a6ad_12 (by decide) ?_
      rw [if_neg (fun z3 => z3.elim z z2)]
      exact W.zret hx hb hr rfl (fun t ht _ => ⟨rfl, ht⟩) (fun q hq => by cases hq) dJ1_canEncode_9a6ad_16 hlk
set_option maxHeartbeats 1000000 in
theorem ro_max (G : GP) (x y : Int32) : MeR G u_max 1 [.int x, .int y] (some (.int (if x < y then y else x))) := by
  refine ro_of (lv := [(0, .int x), (1, .int y)]) (by decide +kernel) (Nat.le_of_ble_eq_true rfl) rfl ?_
  intro A p e s m below meth c ls hC hl
  obtain ⟨hx, hb, hr, hml, hown, hts, hlk, hSx⟩ := hC
  refine lv_iload_n hx hb dJ9_max_7cf53_0 rfl (lv_at hl 0 rfl) ?_
  refine lv_iload_n hx hb dJ9_max_7cf53_1 rfl (lv_at hl 1 rfl) ?_
  refine lv_icmp_lt (tgt := 9) hx hb dJ9_max_7cf53_2 (by decide) (fun z => ?_) (fun z => ?_)
  · refine lv_iload_n hx hb dJ9_max_7cf53_9 rfl (lv_at hl 1 rfl) ?_
    rw [if_pos z]
    exact W.iret hx hb hr (fun t ht _ => ⟨rfl, ht⟩) (fun q hq => by cases hq) dJ9_max_7cf53_10 hlk
  · refine lv_iload_n hx hb dJ9_max_7cf53_5 rfl (lv_at hl 0 rfl) ?_
    refine lv_goto (tgt := 10) hx hb dJ9_max_7cf53_6 (by decide) ?_
    rw [if_neg z]
    exact W.iret hx hb hr (fun t ht _ => ⟨rfl, ht⟩) (fun q hq => by cases hq) dJ9_max_7cf53_10 hlk
set_option maxHeartbeats 1000000 in
theorem ro_min (G : GP) (x y : Int32) : MeR G u_min 1 [.int x, .int y] (some (.int (if y < x then y else x))) := by
  refine ro_of (lv := [(0, .int x), (1, .int y)]) (by decide +kernel) (Nat.le_of_ble_eq_true rfl) rfl ?_
  intro A p e s m below meth c ls hC hl
  obtain ⟨hx, hb, hr, hml, hown, hts, hlk, hSx⟩ := hC
  refine lv_iload_n hx hb dJ9_min_7cf53_0 rfl (lv_at hl 0 rfl) ?_
  refine lv_iload_n hx hb dJ9_min_7cf53_1 rfl (lv_at hl 1 rfl) ?_
  refine lv_icmp_gt (tgt := 9) hx hb dJ9_min_7cf53_2 (by decide) (fun z => ?_) (fun z => ?_)
  · refine lv_iload_n hx hb dJ9_min_7cf53_9 rfl (lv_at hl 1 rfl) ?_
    rw [if_pos z]
    exact W.iret hx hb hr (fun t ht _ => ⟨rfl, ht⟩) (fun q hq => by cases hq) dJ9_min_7cf53_10 hlk
  · refine lv_iload_n hx hb dJ9_min_7cf53_5 rfl (lv_at hl 0 rfl) ?_
    refine lv_goto (tgt := 10) hx hb dJ9_min_7cf53_6 (by decide) ?_
    rw [if_neg z]
    exact W.iret hx hb hr (fun t ht _ => ⟨rfl, ht⟩) (fun q hq => by cases hq) dJ9_min_7cf53_10 hlk
/-- the search from place j on -/
def sx_go (b : Int32) : List Int32 → Nat → Int32
  | [], _ => -1
  | x :: l, j => if x = b then nI j else sx_go b l (j + 1)
set_option maxHeartbeats 4000000 in
theorem ro_ixLoop {G : GP} {A : Nat → Prop} {p : Program} {e : Env} {s : State} {m : MethodId} {args : Array Value} {below : List Frame} {meth : Method} {c : Code} (hC : ro_C G u_ixChar A p s m args meth c) (x b : Int32) : ∀ (l : List Int32) (j : Nat) (ls : Array Slot), (hs_byt.getD 1 []).drop j = l → j ≤ 9 → lv_has ls 6 [(0, .ref (G.2.2.2.2.2 1)), (1, .int x), (2, .int 0), (3, .int 9), (4, .int b), (5, .int (nI j))] → W p G.1 e (hs_R 1 0 0) s m args below meth c s.heap [] 0 0 (MQ below (ro_Q (some (.int (sx_go b l j)))) args s 0 0 (fun _ => False)) (F0 m 7 ls []) := by
  obtain ⟨hx, hb, hr, hml, hown, hts, hlk, hSx⟩ := hC
  have hE := hSx.2.2.1.1 1 (by decide)
  have hlen : (hs_byt.getD 1 []).length = 9 := by decide
  intro l
  induction l with
  | nil =>
    intro j ls hdr hj hl
    have hj9 : j = 9 := by
      have h1 := congrArg List.length hdr
      rw [List.length_drop, hlen] at h1
      simp at h1
      omega
    subst hj9
    refine lv_iload hx hb dJ1_indexOfChar_4cfef_7 (lv_at hl 5 rfl) ?_
    refine lv_iload_n hx hb dJ1_indexOfChar_4cfef_9 rfl (lv_at hl 3 rfl) ?_
    refine lv_icmp_ge (tgt := 31) hx hb dJ1_indexOfChar_4cfef_10 (by decide) (fun _ => ?_) (fun z => absurd (by decide) z)
    refine lv_iconst (v := -1) hx hb dJ1_indexOfChar_4cfef_31 (by decide) ?_
    exact W.iret hx hb hr (fun t ht _ => ⟨rfl, ht⟩) (fun q hq => by cases hq) dJ1_indexOfChar_4cfef_32 hlk
  | cons y l ih =>
    intro j ls hdr hj hl
    have hj9 : j < 9 := by
      have h1 := congrArg List.length hdr
      rw [List.length_drop, hlen] at h1
      simp at h1
      omega
    have hy : (hs_byt.getD 1 []).getD j 0 = y := by
      have h1 := congrArg (fun z => z[0]?) hdr
      rw [List.getElem?_drop] at h1
      rw [List.getD_eq_getElem?_getD, show j = j + 0 from rfl, h1]
      rfl
    have hdr2 : (hs_byt.getD 1 []).drop (j + 1) = l := by
      rw [← List.drop_drop, hdr]
      rfl
    refine lv_iload hx hb dJ1_indexOfChar_4cfef_7 (lv_at hl 5 rfl) ?_
    refine lv_iload_n hx hb dJ1_indexOfChar_4cfef_9 rfl (lv_at hl 3 rfl) ?_
    refine lv_icmp_ge (tgt := 31) hx hb dJ1_indexOfChar_4cfef_10 (by decide) (fun z => absurd z (nI_ge (a := j) (b := 9) hj9 (by decide))) (fun _ => ?_)
    refine lv_aload_n hx hb dJ1_indexOfChar_4cfef_13 rfl (lv_at hl 0 rfl) ?_
    refine lv_iload hx hb dJ1_indexOfChar_4cfef_14 (lv_at hl 5 rfl) ?_
    refine va_tb (v := .int y) hx hb hE.2.2.2 va_S.rf (vp_in_nI (n := j) (N := 9) hj9 (by decide)) (by show Value.int _ = _; rw [nI_clamp (by omega), hy]) dJ1_indexOfChar_4cfef_16 ?_
    refine lv_iload hx hb dJ1_indexOfChar_4cfef_17 (lv_at hl 4 rfl) ?_
    refine lv_icmp_ne (tgt := 25) hx hb dJ1_indexOfChar_4cfef_19 (by decide) (fun z => ?_) (fun z => ?_)
    · rw [sx_go, if_neg z]
      refine lv_iinc (v := nI (j + 1)) (lv' := [(5, .int (nI (j + 1))), (0, .ref (G.2.2.2.2.2 1)), (1, .int x), (2, .int 0), (3, .int 9), (4, .int b)]) hx hb dJ1_indexOfChar_4cfef_25 hl (k := 5) rfl (nI_1 j) (by decide) rfl (fun ls hl => ?_)
      refine lv_goto (tgt := 7) hx hb dJ1_indexOfChar_4cfef_28 (by decide) ?_
      exact ih (j + 1) ls hdr2 (by omega) (lv_sub hl [1, 2, 3, 4, 5, 0] rfl)
    · rw [sx_go, if_pos z]
      refine lv_iload hx hb dJ1_indexOfChar_4cfef_22 (lv_at hl 5 rfl) ?_
      exact W.iret hx hb hr (fun t ht _ => ⟨rfl, ht⟩) (fun q hq => by cases hq) dJ1_indexOfChar_4cfef_24 hlk
set_option maxHeartbeats 1000000 in
theorem ro_ixChar (G : GP) (x : Int32) : MeR G u_ixChar 1 [.ref (G.2.2.2.2.2 1), .int x, .int 0, .int 9] (some (.int (sx_go x.toInt8.toInt32 (hs_byt.getD 1 []) 0))) := by
  refine ro_of (lv := [(0, .ref (G.2.2.2.2.2 1)), (1, .int x), (2, .int 0), (3, .int 9)]) (by decide +kernel) (Nat.le_of_ble_eq_true rfl) rfl ?_
  intro A p e s m below meth c ls hC hl
  obtain ⟨hx, hb, hr, hml, hown, hts, hlk, hSx⟩ := hC
  refine lv_iload_n hx hb dJ1_indexOfChar_4cfef_0 rfl (lv_at hl 1 rfl) ?_
  refine lv_i2b hx hb dJ1_indexOfChar_4cfef_1 rfl ?_
  refine lv_istore (lv' := [(4, .int x.toInt8.toInt32), (0, .ref (G.2.2.2.2.2 1)), (1, .int x), (2, .int 0), (3, .int 9)]) hx hb dJ1_indexOfChar_4cfef_2 hl (by decide) rfl (fun ls hl => ?_)
  refine lv_iload_n hx hb dJ1_indexOfChar_4cfef_4 rfl (lv_at hl 3 rfl) ?_
  refine lv_istore (lv' := [(5, .int 0), (4, .int x.toInt8.toInt32), (0, .ref (G.2.2.2.2.2 1)), (1, .int x), (2, .int 0), (3, .int 9)]) hx hb dJ1_indexOfChar_4cfef_5 hl (by decide) rfl (fun ls hl => ?_)
  exact ro_ixLoop ⟨hx, hb, hr, hml, hown, hts, hlk, hSx⟩ x _ _ 0 ls rfl (by decide) (lv_sub hl [2, 3, 4, 5, 1, 0] rfl)
set_option maxHeartbeats 1000000 in
theorem ro_lindexOf (G : GP) (x : Int32) : MeR G u_lindexOf 2 [.ref (G.2.2.2.2.2 1), .int x, .int 0, .int 9] (some (.int (if x < 0 ∨ 255 < x then -1 else sx_go x.toInt8.toInt32 (hs_byt.getD 1 []) 0))) := by
  refine ro_of (lv := [(0, .ref (G.2.2.2.2.2 1)), (1, .int x), (2, .int 0), (3, .int 9)]) (by decide +kernel) (Nat.le_of_ble_eq_true rfl) rfl ?_
  intro A p e s m below meth c ls hC hl
  obtain ⟨hx, hb, hr, hml, hown, hts, hlk, hSx⟩ := hC
  have hE := hSx.2.2.1.1 1 (by decide)
  refine lv_iload_n hx hb dJ1_indexOf_4cfef_0 rfl (lv_at hl 1 rfl) ?_
  refine ro_callS (M' := u_canEncode) (h' := 1) (As := [.int x]) (rest := []) hx hb hml hown hts hSx va_S.rf hl.1 uf_canEncode us_canEncode ul_can dJ1_indexOf_4cfef_1 (ro_canEncode G x) ⟨Nat.le_of_ble_eq_true rfl, Nat.le_of_ble_eq_true rfl⟩ rfl (Nat.le_of_ble_eq_true rfl) ⟨Nat.le_refl _, Nat.le_refl _⟩ ?_
  by_cases hz : x < 0 ∨ 255 < x
  · rw [if_pos hz, if_pos hz]
    refine lv_if_ne (tgt := 9) hx hb dJ1_indexOf_4cfef_4 (by decide) (fun z => absurd rfl z) (fun _ => ?_)
    refine lv_iconst (v := -1) hx hb dJ1_indexOf_4cfef_7 (by decide) ?_
    exact W.iret hx hb hr (fun t ht _ => ⟨rfl, ht⟩) (fun q hq => by cases hq) dJ1_indexOf_4cfef_8 hlk
  · rw [if_neg hz, if_neg hz]
    refine lv_if_ne (tgt := 9) hx hb dJ1_indexOf_4cfef_4 (by decide) (fun _ => ?_) (fun z => absurd z (by decide))
    refine lv_iload_n hx hb dJ1_indexOf_4cfef_9 rfl (lv_at hl 2 rfl) ?_
    refine lv_iconst (v := 0) hx hb dJ1_indexOf_4cfef_10 (by decide) ?_
    refine ro_callS (M' := u_max) (h' := 1) (As := [.int 0, .int 0]) (rest := []) hx hb hml hown hts hSx va_S.rf hl.1 uf_max us_max ul_max dJ1_indexOf_4cfef_11 (ro_max G 0 0) ⟨Nat.le_of_ble_eq_true rfl, Nat.le_of_ble_eq_true rfl⟩ rfl (Nat.le_of_ble_eq_true rfl) ⟨Nat.le_refl _, Nat.le_refl _⟩ ?_
    refine lv_istore_n (lv' := [(2, .int 0), (0, .ref (G.2.2.2.2.2 1)), (1, .int x), (3, .int 9)]) hx hb dJ1_indexOf_4cfef_14 rfl hl (by decide) rfl (fun ls hl => ?_)
    refine lv_iload_n hx hb dJ1_indexOf_4cfef_15 rfl (lv_at hl 3 rfl) ?_
    refine lv_aload_n hx hb dJ1_indexOf_4cfef_16 rfl (lv_at hl 1 rfl) ?_
    refine va_tlen (v := 9) hx hb hE.2.2.2 va_S.rf rfl dJ1_indexOf_4cfef_17 ?_
    refine ro_callS (M' := u_min) (h' := 1) (As := [.int 9, .int 9]) (rest := []) hx hb hml hown hts hSx va_S.rf hl.1 uf_min us_min ul_min dJ1_indexOf_4cfef_18 (ro_min G 9 9) ⟨Nat.le_of_ble_eq_true rfl, Nat.le_of_ble_eq_true rfl⟩ rfl (Nat.le_of_ble_eq_true rfl) ⟨Nat.le_refl _, Nat.le_refl _⟩ ?_
    refine lv_istore_n (lv' := [(3, .int 9), (2, .int 0), (0, .ref (G.2.2.2.2.2 1)), (1, .int x)]) hx hb dJ1_indexOf_4cfef_21 rfl hl (by decide) rfl (fun ls hl => ?_)
    refine lv_iload_n hx hb dJ1_indexOf_4cfef_22 rfl (lv_at hl 1 rfl) ?_
    refine lv_iload_n hx hb dJ1_indexOf_4cfef_23 rfl (lv_at hl 0 rfl) ?_
    refine lv_icmp_lt (tgt := 29) hx hb dJ1_indexOf_4cfef_24 (by decide) (fun _ => ?_) (fun z => absurd (by decide) z)
    refine lv_aload_n hx hb dJ1_indexOf_4cfef_29 rfl (lv_at hl 2 rfl) ?_
    refine lv_iload_n hx hb dJ1_indexOf_4cfef_30 rfl (lv_at hl 3 rfl) ?_
    refine lv_iload_n hx hb dJ1_indexOf_4cfef_31 rfl (lv_at hl 1 rfl) ?_
    refine lv_iload_n hx hb dJ1_indexOf_4cfef_32 rfl (lv_at hl 0 rfl) ?_
    refine ro_callS (M' := u_ixChar) (h' := 1) (As := [.ref (G.2.2.2.2.2 1), .int x, .int 0, .int 9]) (rest := []) hx hb hml hown hts hSx va_S.rf hl.1 uf_ixChar us_ixChar ul_ixc dJ1_indexOf_4cfef_33 (ro_ixChar G x) ⟨Nat.le_of_ble_eq_true rfl, Nat.le_of_ble_eq_true rfl⟩ rfl (Nat.le_of_ble_eq_true rfl) ⟨Nat.le_refl _, Nat.le_refl _⟩ ?_
    exact W.iret hx hb hr (fun t ht _ => ⟨rfl, ht⟩) (fun q hq => by cases hq) dJ1_indexOf_4cfef_36 hlk
set_option maxHeartbeats 1000000 in
theorem ro_indexOf2 (G : GP) (x : Int32) : MeR G u_indexOf2 3 [.ref (G.2.2.2.2.1 1), .int x, .int 0] (some (.int (if x < 0 ∨ 255 < x then -1 else sx_go x.toInt8.toInt32 (hs_byt.getD 1 []) 0))) := by
  refine ro_of (lv := [(0, .ref (G.2.2.2.2.1 1)), (1, .int x), (2, .int 0)]) (by decide +kernel) (Nat.le_of_ble_eq_true rfl) rfl ?_
  intro A p e s m below meth c ls hC hl
  obtain ⟨hx, hb, hr, hml, hown, hts, hlk, hSx⟩ := hC
  have hE := hSx.2.2.1.1 1 (by decide)
  refine lv_aload_n hx hb dJ0_indexOf_7cf53_0 rfl (lv_at hl 0 rfl) ?_
  refine ro_callV (M' := u_isLatin1) (h' := 1) (i := 1) (As := []) (rest := []) hx hb hml hown hts hSx va_S.rf hl.1 uf_isLatin1 uv_isLatin1 rfl (by decide) ul_lat dJ0_indexOf_7cf53_1 (ro_isLatin1 G 1 (by decide)) ⟨Nat.le_of_ble_eq_true rfl, Nat.le_of_ble_eq_true rfl⟩ rfl (Nat.le_of_ble_eq_true rfl) ⟨Nat.le_refl _, Nat.le_refl _⟩ ?_
  refine lv_if_eq (tgt := 23) hx hb dJ0_indexOf_7cf53_4 (by decide) (fun z => absurd z (by decide)) (fun _ => ?_)
  refine lv_aload_n hx hb dJ0_indexOf_7cf53_7 rfl (lv_at hl 0 rfl) ?_
  refine vk_getf (ref := "java/lang/String") hx hb hE.2.2.1 va_S.rf hown (hts _ ug_val) (fun _ z => z) dJ0_indexOf_7cf53_8 ?_
  refine lv_iload_n hx hb dJ0_indexOf_7cf53_11 rfl (lv_at hl 1 rfl) ?_
  refine lv_iload_n hx hb dJ0_indexOf_7cf53_12 rfl (lv_at hl 2 rfl) ?_
  refine lv_aload_n hx hb dJ0_indexOf_7cf53_13 rfl (lv_at hl 0 rfl) ?_
  refine ro_callV (M' := u_length) (h' := 2) (i := 1) (As := []) (rest := [.int 0, .int x, .ref (G.2.2.2.2.2 1)]) hx hb hml hown hts hSx va_S.rf hl.1 uf_length uv_length rfl (by decide) ul_len dJ0_indexOf_7cf53_14 (ro_length G 1 (by decide)) ⟨Nat.le_of_ble_eq_true rfl, Nat.le_of_ble_eq_true rfl⟩ rfl (Nat.le_of_ble_eq_true rfl) ⟨Nat.le_refl _, Nat.le_refl _⟩ ?_
  refine ro_callS (M' := u_lindexOf) (h' := 2) (As := [.ref (G.2.2.2.2.2 1), .int x, .int 0, .int 9]) (rest := []) hx hb hml hown hts hSx va_S.rf hl.1 uf_lindexOf us_lindexOf ul_lix dJ0_indexOf_7cf53_17 (ro_lindexOf G x) ⟨Nat.le_of_ble_eq_true rfl, Nat.le_of_ble_eq_true rfl⟩ rfl (Nat.le_of_ble_eq_true rfl) ⟨Nat.le_refl _, Nat.le_refl _⟩ ?_
  refine lv_goto (tgt := 36) hx hb dJ0_indexOf_7cf53_20 (by decide) ?_
  exact W.iret hx hb hr (fun t ht _ => ⟨rfl, ht⟩) (fun q hq => by cases hq) dJ0_indexOf_7cf53_36 hlk
set_option maxHeartbeats 1000000 in
theorem ro_indexOf (G : GP) (x : Int32) : MeR G u_indexOf 4 [.ref (G.2.2.2.2.1 1), .int x] (some (.int (if x < 0 ∨ 255 < x then -1 else sx_go x.toInt8.toInt32 (hs_byt.getD 1 []) 0))) := by
  refine ro_of (lv := [(0, .ref (G.2.2.2.2.1 1)), (1, .int x)]) (by decide +kernel) (Nat.le_of_ble_eq_true rfl) rfl ?_
  intro A p e s m below meth c ls hC hl
  obtain ⟨hx, hb, hr, hml, hown, hts, hlk, hSx⟩ := hC
  refine lv_aload_n hx hb dJ0_indexOf_0f7a4_0 rfl (lv_at hl 0 rfl) ?_
  refine lv_iload_n hx hb dJ0_indexOf_0f7a4_1 rfl (lv_at hl 1 rfl) ?_
  refine lv_iconst (v := 0) hx hb dJ0_indexOf_0f7a4_2 (by decide) ?_
  refine ro_callV (M' := u_indexOf2) (h' := 3) (i := 1) (As := [.int x, .int 0]) (rest := []) hx hb hml hown hts hSx va_S.rf hl.1 uf_indexOf2 uv_indexOf2 rfl (by decide) ul_ix2 dJ0_indexOf_0f7a4_3 (ro_indexOf2 G x) ⟨Nat.le_of_ble_eq_true rfl, Nat.le_of_ble_eq_true rfl⟩ rfl (Nat.le_of_ble_eq_true rfl) ⟨Nat.le_refl _, Nat.le_refl _⟩ ?_
  exact W.iret hx hb hr (fun t ht _ => ⟨rfl, ht⟩) (fun q hq => by cases hq) dJ0_indexOf_0f7a4_6 hlk
def sx_ix (c : Int32) : Int32 := if c = 59 then 0 else if c = 61 then 1 else if c = 43 then 2 else if c = 45 then 3 else if c = 42 then 4 else if c = 47 then 5 else if c = 60 then 6 else if c = 40 then 7 else if c = 41 then 8 else -1
def sx_ch (x : Int32) : Int32 := (hs_byt.getD 0 []).getD x.toNatClampNeg 0
theorem sx_in : ∀ n, n < 256 → sx_go (nI n).toInt8.toInt32 (hs_byt.getD 1 []) 0 = sx_ix (nI n) := by decide +kernel
theorem sx_eq (x : Int32) : (if x < 0 ∨ 255 < x then -1 else sx_go x.toInt8.toInt32 (hs_byt.getD 1 []) 0) = sx_ix x := by
  by_cases hz : x < 0 ∨ 255 < x
  · rw [if_pos hz]
    unfold sx_ix
    have hn : ∀ k : Int32, ¬ (k < 0 ∨ 255 < k) → ¬ x = k := fun k hk he => hk (he ▸ hz)
    rw [if_neg (hn 59 (by decide)), if_neg (hn 61 (by decide)), if_neg (hn 43 (by decide)), if_neg (hn 45 (by decide)), if_neg (hn 42 (by decide)), if_neg (hn 47 (by decide)), if_neg (hn 60 (by decide)), if_neg (hn 40 (by decide)), if_neg (hn 41 (by decide))]
  · rw [if_neg hz]
    obtain ⟨j, hj, rfl⟩ := nI_of2 (M := 255) (n := 255) (by decide) (fun h => hz (Or.inl h)) (Int32.not_lt.mp (fun h => hz (Or.inr h)))
    exact sx_in j (by omega)
theorem sx_cn : ∀ k, k < hs_len.getD 0 0 → narrow .char (.int ((((hs_byt.getD 0 []).getD k 0) &&& 255).toUInt32 % 65536).toInt32) = .int ((((hs_byt.getD 0 []).getD k 0) &&& 255).toUInt32 % 65536).toInt32 := by decide +kernel
theorem sx_cv : ∀ k, k < 79 → ((((hs_byt.getD 0 []).getD k 0) &&& 255).toUInt32 % 65536).toInt32 = (hs_byt.getD 0 []).getD k 0 := by decide +kernel
section HQ
variable {G : GP} {M : Mt} {h mc ms n0 : Nat} {ρ : Type} {inj : ρ → Option Value} {kc ks pc : Nat} {lv : List (Nat × Value)} {st : List Value} {σ : Sto} {X : Option (ρ × Sto)}
theorem hj_sidx {i : Nat} {x : Int32} (j : Nat) (d1 : decode M.2.1 pc = .ok (.ldc 69, 2)) (d2 : decode M.2.1 (pc + 2) = .ok (.iload i, 2)) (d3 : decode M.2.1 (pc + 2 + 2) = .ok (.invokevirtual 71, 3)) (hk : lv[j]? = some (i, .int x)) (hh : 7 ≤ h) (hsum : (st.map fun v => v.category).sum ≤ 8) (hown : M.1.cls = RX9) (h1 : kc = mc) (h2 : ks = ms) (hx : 0 ≤ 0) (k : Sim G M h mc ms n0 inj kc ks (pc + 2 + 2 + 3) lv (.int (sx_ix x) :: st) σ X) : Sim G M h mc ms n0 inj kc ks pc lv st σ X := by
  intro r σ' hX p e s m args below meth c H locs ls hM hC hl
  have hown' : s.vm.findClass RX9 = some m.cls := by rw [← hown]; exact hM.2.2.2.2.1
  have hSx := hM.2.2.2.2.2.2.2.2.2.2.2.2
  refine va_ldcS hM.1 hM.2.1 hown' hSx.2.1 d1 ?_
  refine lv_iload hM.1 hM.2.1 d2 (lv_at hl j (hs_Lget hk)) ?_
  refine ro_callV (M' := u_indexOf) (h' := 4) (i := 1) (As := [.int x]) (rest := st.map (hs_v G.2.2.1)) hM.1 hM.2.1 hM.2.2.2.1 hown' hM.2.2.2.2.2.1 hSx hC.2.2.1 hl.1 uf_indexOf uv_indexOf rfl (by decide) ul_tix d3 (ro_indexOf G x) ⟨by show 5 ≤ h; omega, by show 8 + (2 + 11) + 64 * 4 ≤ 64 * h; omega⟩ rfl (by rw [hs_catsum]; exact hsum) ⟨Nat.le_of_eq h1, Nat.le_of_eq h2⟩ ?_
  rw [sx_eq]
  exact k r σ' hX p e s m args below meth c H locs ls hM hC hl
theorem hj_slen (d1 : decode M.2.1 pc = .ok (.ldc 29, 2)) (d2 : decode M.2.1 (pc + 2) = .ok (.invokevirtual 31, 3)) (hh : 7 ≤ h) (hsum : (st.map fun v => v.category).sum ≤ 8) (hown : M.1.cls = RX9) (h1 : kc ≤ mc) (h2 : ks ≤ ms) (k : Sim G M h mc ms n0 inj kc ks (pc + 5) lv (.int 79 :: st) σ X) : Sim G M h mc ms n0 inj kc ks pc lv st σ X := by
  intro r σ' hX p e s m args below meth c H locs ls hM hC hl
  have hown' : s.vm.findClass RX9 = some m.cls := by rw [← hown]; exact hM.2.2.2.2.1
  have hSx := hM.2.2.2.2.2.2.2.2.2.2.2.2
  refine va_ldcS hM.1 hM.2.1 hown' hSx.1 d1 ?_
  refine ro_callV (M' := u_length) (h' := 2) (i := 0) (As := []) (rest := st.map (hs_v G.2.2.1)) hM.1 hM.2.1 hM.2.2.2.1 hown' hM.2.2.2.2.2.1 hSx hC.2.2.1 hl.1 uf_length uv_length rfl (by decide) ul_tlen d2 (ro_length G 0 (by decide)) ⟨by show 3 ≤ h; omega, by show 8 + (1 + 11) + 64 * 2 ≤ 64 * h; omega⟩ rfl (by rw [hs_catsum]; exact hsum) ⟨h1, h2⟩ ?_
  exact k r σ' hX p e s m args below meth c H locs ls hM hC hl
theorem hj_scat {i : Nat} {x : Int32} (j : Nat) (d1 : decode M.2.1 pc = .ok (.ldc 29, 2)) (d2 : decode M.2.1 (pc + 2) = .ok (.iload i, 2)) (d3 : decode M.2.1 (pc + 2 + 2) = .ok (.invokevirtual 37, 3)) (hk : lv[j]? = some (i, .int x)) (hh : 7 ≤ h) (hsum : (st.map fun v => v.category).sum ≤ 8) (hown : M.1.cls = RX9) (h1 : kc ≤ mc) (h2 : ks ≤ ms) (k : ¬ (x < 0 ∨ 79 ≤ x) → Sim G M h mc ms n0 inj kc ks (pc + 2 + 2 + 3) lv (.int (sx_ch x) :: st) σ X) : Sim G M h mc ms n0 inj kc ks pc lv st σ (if x < 0 ∨ 79 ≤ x then none else X) := by
  by_cases hz : x < 0 ∨ 79 ≤ x
  · rw [if_pos hz]; exact hj_none
  rw [if_neg hz]
  intro r σ' hX p e s m args below meth c H locs ls hM hC hl
  have hown' : s.vm.findClass RX9 = some m.cls := by rw [← hown]; exact hM.2.2.2.2.1
  have hSx := hM.2.2.2.2.2.2.2.2.2.2.2.2
  have g0 : ¬ x < 0 := fun z => hz (Or.inl z)
  have g1 : x < 79 := Int32.not_le.mp (fun z => hz (Or.inr z))
  have g2 : x.toNatClampNeg < 79 := by
    obtain ⟨y, hy, rfl⟩ := nI_of g0
    rw [nI_clamp hy]
    exact (nI_ltI hy (by decide)).mp g1
  refine va_ldcS hM.1 hM.2.1 hown' hSx.1 d1 ?_
  refine lv_iload hM.1 hM.2.1 d2 (lv_at hl j (hs_Lget hk)) ?_
  refine ro_callV (M' := u_charAt) (h' := 4) (i := 0) (As := [.int x]) (rest := st.map (hs_v G.2.2.1)) hM.1 hM.2.1 hM.2.2.2.1 hown' hM.2.2.2.2.2.1 hSx hC.2.2.1 hl.1 uf_charAt uv_charAt rfl (by decide) ul_tch d3 (ro_charAt G 0 (by decide) x g0 g1 g2 sx_cn) ⟨by show 5 ≤ h; omega, by show 8 + (2 + 11) + 64 * 4 ≤ 64 * h; omega⟩ rfl (by rw [hs_catsum]; exact hsum) ⟨h1, h2⟩ ?_
  have e1 := sx_cv _ g2
  rw [e1]
  exact k hz r σ' hX p e s m args below meth c H locs ls hM hC hl
end HQ
