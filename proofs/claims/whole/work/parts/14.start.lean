set_option maxRecDepth 20000 in
theorem mcX11_init : Cond.code mX11_init.1 mX11_init.2.1 mX11_init.2.2.1 mX11_init.2.2.2 ∈ tables_1 := (List.mem_append_left _ (List.mem_of_getElem? (i := 24) rfl))
theorem mfX11_init : hs_MF mX11_init 0 := ⟨List.mem_filter.mpr ⟨List.mem_append_right _ mcX11_init, rfl⟩, (hs_inT 133 (by decide +kernel) rfl), by decide +kernel, by decide +kernel, by decide +kernel⟩
theorem miX11_init : Cond.instanceMethod mX11_init.1 ∈ hs_T := (hs_inT 155 (by decide +kernel) rfl)
set_option maxRecDepth 20000 in
theorem mcX12_init : Cond.code mX12_init.1 mX12_init.2.1 mX12_init.2.2.1 mX12_init.2.2.2 ∈ tables_1 := (List.mem_append_right _ (List.mem_append_right _ (List.mem_append_right _ (List.mem_append_right _ (List.mem_append_left _ (List.mem_of_getElem? (i := 97) rfl))))))
theorem mfX12_init : hs_MF mX12_init 0 := ⟨List.mem_filter.mpr ⟨List.mem_append_right _ mcX12_init, rfl⟩, (hs_inT 149 (by decide +kernel) rfl), by decide +kernel, by decide +kernel, by decide +kernel⟩
theorem miX12_init : Cond.instanceMethod mX12_init.1 ∈ hs_T := (hs_inT 1188 (by decide +kernel) rfl)
def iC : Sto := (1, fun k => if k = 0 then .inr (11, [.null, .int 0, .null, .null, .null, .null, .null, .null, .null, .null, .null, .null, .null, .null, .null]) else .inr (99, []))
def iM : Sto := (1, fun k => if k = 0 then .inr (12, [.int 0, .null, .int 0, .null, .int 0, .null, .null, .null, .null, .null, .int 0, .int 0, .int 0, .int 0, .int 0, .int 0, .int 0, .int 0, .int 0, .int 0, .int 0, .null, .null, .null, .null, .null, .null, .null, .null, .null, .null, .null, .null, .int 0, .null, .null, .null, .null, .null, .int 0, .null, .null, .null, .int 0, .null, .null, .int 0, .null, .null, .int 0, .int 0, .int 0, .null, .null, .null, .int 0, .null, .null, .long 0, .long 0, .int 0, .null, .int 0, .null, .null, .null, .null, .null, .null]) else .inr (99, []))
theorem lw_arr {s : State} {args : Array Value} {ty : FieldType} (h : (Cond.arrayClass ty).before args s = true) (hra : ∀ (c : ClassId), s.vm.findClass ("[" ++ ty.toString) = some c → va_RA s c ty) : ∃ c : ClassId, ArrOfT s c ty ∧ va_RA s c ty := by
  obtain ⟨c, k, comp, h1, h2, h3⟩ := Cond.arrayClass_spec h
  exact ⟨c, fun n z => ⟨fun k h => (by cases h), k, h2, comp, h3⟩, hra c h1⟩
theorem lw_arrO {s : State} {args : Array Value} {C : String} (h : (Cond.arrayOver (.object C)).before args s = true) : ∃ c : ClassId, ArrOfT s c (.object C) ∧ va_RA s c (.object C) := by
  obtain ⟨comp, c, k, h1, -, h2, h3, h4⟩ := Cond.arrayOver_spec h
  exact ⟨c, fun n z => ⟨fun k h => (by cases h), k, h2, comp, h3⟩, k, comp, h2, h3, h1, h4⟩
def lw_tm (i : Nat) : Term := .string RX9 (if i = 0 then 29 else 69)
set_option maxHeartbeats 4000000 in
set_option maxRecDepth 100000 in
theorem lw_str {s : State} {b : Nat} (hts : ∀ w ∈ lw_tbl, w.before #[Value.ref b] s = true) (hgv : (Jvm.Cond.and given_1 narrow_1).before #[Value.ref b] s = true) : ∃ aK aV : Nat → Nat, hs_S aK aV (lw_A s) s s.heap := by
  have hs := flat_of_before _ hgv
  have hA : ∀ a : Nat, a < s.heap.size → ¬ lw_A s a := fun a h => Nat.not_le.mpr h
  have m1 : ∀ i, i < 2 → Cond.exactly (lw_tm i) "java/lang/String" ∈ flatC (Jvm.Cond.and given_1 narrow_1) := by decide +kernel
  have m2 : ∀ i, i < 2 → Cond.eq (.field (lw_tm i) "java/lang/String" "coder" "B") (.int 0) ∈ flatC (Jvm.Cond.and given_1 narrow_1) := by decide +kernel
  have m3 : ∀ i, i < 2 → Cond.arrayOf (.field (lw_tm i) "java/lang/String" "value" "[B") .byte ∈ flatC (Jvm.Cond.and given_1 narrow_1) := by decide +kernel
  have m4 : ∀ i, i < 2 → Cond.eq (.length (.field (lw_tm i) "java/lang/String" "value" "[B")) (.int (Int32.ofNat (hs_len.getD i 0))) ∈ flatC (Jvm.Cond.and given_1 narrow_1) := by decide +kernel
  have m5 : ∀ i, i < 2 → ∀ j, j < hs_len.getD i 0 → Cond.eq (.elem (.field (lw_tm i) "java/lang/String" "value" "[B") (.int (Int32.ofNat j))) (.int ((hs_byt.getD i []).getD j 0)) ∈ flatC (Jvm.Cond.and given_1 narrow_1) := by decide +kernel
  have m6 : ∀ i, i < 2 → ∀ j, j < 2 → i ≠ j → Cond.not (Cond.eq (lw_tm i) (lw_tm j)) ∈ flatC (Jvm.Cond.and given_1 narrow_1) ∨ Cond.not (Cond.eq (lw_tm j) (lw_tm i)) ∈ flatC (Jvm.Cond.and given_1 narrow_1) := by decide +kernel
  obtain ⟨aK, aV, hS, hE⟩ := vk_Sof (args := #[Value.ref b]) (s := s) (N := 2) (tm := lw_tm) (len := hs_len) (byt := hs_byt) (A := lw_A s) (by decide) (fun i hi => hs _ (m1 i hi)) (fun i hi => hs _ (m2 i hi)) (fun i hi => hs _ (m3 i hi)) (fun i hi => hs _ (m4 i hi)) (fun i hi j hj => hs _ (m5 i hi j hj)) (fun i j hi hj hij => (m6 i hi j hj hij).elim (fun h => Or.inl (hs _ h)) (fun h => Or.inr (hs _ h))) hA
  have r0 : (Cond.stringRef RX9 29 hs_s0).before #[Value.ref b] s = true := hts _ (List.mem_of_getElem? (i := 166) (by decide +kernel))
  have r1 : (Cond.stringRef RX9 69 hs_s1).before #[Value.ref b] s = true := hts _ (List.mem_of_getElem? (i := 654) (by decide +kernel))
  have e0 := hE 0 (by decide)
  have e1 := hE 1 (by decide)
  refine ⟨aK, aV, vk_R.of r0 e0, vk_R.of r1 e1, hS, ?_, ?_⟩
  · exact va_Zof (hts _ (List.mem_of_getElem? (i := 176) (by decide +kernel))) (hts (.initialized "java/lang/String") (List.mem_of_getElem? (i := 135) (by decide +kernel))) (va_eqt (hs (Cond.eq (.static "java/lang/String" "COMPACT_STRINGS" "Z") (.int 1)) (by decide +kernel))) hA
  · exact va_Zqof (hts _ (List.mem_of_getElem? (i := 192) (by decide +kernel))) (hts (.initialized "jdk/internal/util/Preconditions") (List.mem_of_getElem? (i := 137) (by decide +kernel))) (hs (Cond.isRef (.static "jdk/internal/util/Preconditions" "SIOOBE_FORMATTER" "Ljava/util/function/BiFunction;")) (by decide +kernel)) hA
set_option maxHeartbeats 4000000 in
set_option maxRecDepth 100000 in
theorem lw_ctx {s : State} {b : Nat} (hts : ∀ w ∈ lw_tbl, w.before #[Value.ref b] s = true) (hgv : (Jvm.Cond.and given_1 narrow_1).before #[Value.ref b] s = true) : ∃ (D : va_G) (cy : Nat → ClassId) (aK aV : Nat → Nat), ∀ (l : Launch) (q : Nat), hs_X (l, D, q, cy, aK, aV) (lw_A s) s s.heap := by
  obtain ⟨c0, iS0, hK0⟩ := u_known (C := RX0) (T := TX0) (N := 6) (n := 6) hts ciX0 (hts (.instantiable RX0 6) (List.mem_of_getElem? (i := 388) (by decide +kernel)))
  obtain ⟨c1, iS1, hK1⟩ := u_known (C := RX1) (T := TX1) (N := 8) (n := 8) hts ciX1 (hts (.instantiable RX1 8) (List.mem_of_getElem? (i := 459) (by decide +kernel)))
  obtain ⟨c2, iS2, hK2⟩ := u_known (C := RX2) (T := TX2) (N := 3) (n := 3) hts ciX2 (hts (.instantiable RX2 3) (List.mem_of_getElem? (i := 531) (by decide +kernel)))
  obtain ⟨c3, iS3, hK3⟩ := u_known (C := RX3) (T := TX3) (N := 9) (n := 9) hts ciX3 (hts (.instantiable RX3 9) (List.mem_of_getElem? (i := 350) (by decide +kernel)))
  obtain ⟨c4, iS4, hK4⟩ := u_known (C := RX4) (T := TX4) (N := 6) (n := 6) hts ciX4 (hts (.instantiable RX4 6) (List.mem_of_getElem? (i := 417) (by decide +kernel)))
  obtain ⟨c5, iS5, hK5⟩ := u_known (C := RX5) (T := TX5) (N := 4) (n := 4) hts ciX5 (hts (.instantiable RX5 4) (List.mem_of_getElem? (i := 250) (by decide +kernel)))
  obtain ⟨c6, iS6, hK6⟩ := u_known (C := RX6) (T := TX6) (N := 2) (n := 2) hts ciX6 (hts (.instantiable RX6 2) (List.mem_of_getElem? (i := 538) (by decide +kernel)))
  obtain ⟨c7, iS7, hK7⟩ := u_known (C := RX7) (T := TX7) (N := 9) (n := 9) hts ciX7 (hts (.instantiable RX7 9) (List.mem_of_getElem? (i := 466) (by decide +kernel)))
  obtain ⟨c8, iS8, hK8⟩ := u_known (C := RX8) (T := TX8) (N := 2) (n := 2) hts ciX8 (hts (.instantiable RX8 2) (List.mem_of_getElem? (i := 443) (by decide +kernel)))
  obtain ⟨c9, iS9, hK9⟩ := u_known (C := RX9) (T := TX9) (N := 5) (n := 5) hts ciX9 (hts (.instantiable RX9 5) (List.mem_of_getElem? (i := 161) (by decide +kernel)))
  obtain ⟨c10, iS10, hK10⟩ := u_known (C := RX10) (T := TX10) (N := 15) (n := 15) hts ciX10 (hts (.instantiable RX10 15) (List.mem_of_getElem? (i := 244) (by decide +kernel)))
  obtain ⟨c11, iS11, hK11⟩ := u_known (C := RX11) (T := TX11) (N := 15) (n := 15) hts ciX11 (hts (.instantiable RX11 15) (List.mem_of_getElem? (i := 153) (by decide +kernel)))
  obtain ⟨c12, iS12, hK12⟩ := u_known (C := RX12) (T := TX12) (N := 69) (n := 69) hts ciX12 (hts (.instantiable RX12 69) (List.mem_of_getElem? (i := 1186) (by decide +kernel)))
  obtain ⟨dC, hdC⟩ : ∃ dC : Nat → ClassId, dC 0 = c0 ∧ dC 1 = c1 ∧ dC 2 = c2 ∧ dC 3 = c3 ∧ dC 4 = c4 ∧ dC 5 = c5 ∧ dC 6 = c6 ∧ dC 7 = c7 ∧ dC 8 = c8 ∧ dC 9 = c9 ∧ dC 10 = c10 ∧ dC 11 = c11 ∧ dC 12 = c12 := ⟨fun k => [c0, c1, c2, c3, c4, c5, c6, c7, c8, c9, c10, c11, c12].getD k c0, rfl, rfl, rfl, rfl, rfl, rfl, rfl, rfl, rfl, rfl, rfl, rfl, rfl⟩
  obtain ⟨dI, hdI⟩ : ∃ dI : Nat → Nat → Nat, dI 0 = iS0 ∧ dI 1 = iS1 ∧ dI 2 = iS2 ∧ dI 3 = iS3 ∧ dI 4 = iS4 ∧ dI 5 = iS5 ∧ dI 6 = iS6 ∧ dI 7 = iS7 ∧ dI 8 = iS8 ∧ dI 9 = iS9 ∧ dI 10 = iS10 ∧ dI 11 = iS11 ∧ dI 12 = iS12 := ⟨fun k => [iS0, iS1, iS2, iS3, iS4, iS5, iS6, iS7, iS8, iS9, iS10, iS11, iS12].getD k iS0, rfl, rfl, rfl, rfl, rfl, rfl, rfl, rfl, rfl, rfl, rfl, rfl, rfl⟩
  obtain ⟨p0, p1, p2, p3, p4, p5, p6, p7, p8, p9, p10, p11, p12⟩ := hdC
  obtain ⟨r0, r1, r2, r3, r4, r5, r6, r7, r8, r9, r10, r11, r12⟩ := hdI
  have hKc : ∀ (k : Nat) (q : vw_C), vwCl[k]? = some q → u_Kn s q.1 q.2.1 q.2.2 (dC k) (dI k) := by
    intro k q hq
    match k, hq with
    | 0, hq => cases hq; rw [p0, r0]; exact hK0
    | 1, hq => cases hq; rw [p1, r1]; exact hK1
    | 2, hq => cases hq; rw [p2, r2]; exact hK2
    | 3, hq => cases hq; rw [p3, r3]; exact hK3
    | 4, hq => cases hq; rw [p4, r4]; exact hK4
    | 5, hq => cases hq; rw [p5, r5]; exact hK5
    | 6, hq => cases hq; rw [p6, r6]; exact hK6
    | 7, hq => cases hq; rw [p7, r7]; exact hK7
    | 8, hq => cases hq; rw [p8, r8]; exact hK8
    | 9, hq => cases hq; rw [p9, r9]; exact hK9
    | 10, hq => cases hq; rw [p10, r10]; exact hK10
    | 11, hq => cases hq; rw [p11, r11]; exact hK11
    | 12, hq => cases hq; rw [p12, r12]; exact hK12
    | k + 13, hq => simp [vwCl] at hq
  obtain ⟨y0, a0, b0⟩ := lw_arr (ty := .byte) (hts (.arrayClass .byte) (List.mem_of_getElem? (i := 242) (by decide +kernel))) (fun _ h => h)
  obtain ⟨y1, a1, b1⟩ := lw_arr (ty := .char) (hts (.arrayClass .char) (List.mem_of_getElem? (i := 239) (by decide +kernel))) (fun _ h => h)
  obtain ⟨y2, a2, b2⟩ := lw_arr (ty := .int) (hts (.arrayClass .int) (List.mem_of_getElem? (i := 241) (by decide +kernel))) (fun _ h => h)
  obtain ⟨y3, a3, b3⟩ := lw_arr (ty := .long) (hts (.arrayClass .long) (List.mem_of_getElem? (i := 240) (by decide +kernel))) (fun _ h => h)
  obtain ⟨y4, a4, b4⟩ := lw_arr (ty := .boolean) (hts (.arrayClass .boolean) (List.mem_of_getElem? (i := 281) (by decide +kernel))) (fun _ h => h)
  have o5 : (Cond.arrayOver (.object RX5)).before #[Value.ref b] s = true := hts _ (List.mem_of_getElem? (i := 449) (by decide +kernel))
  obtain ⟨y5, a5, b5⟩ := lw_arrO o5
  have o6 : (Cond.arrayOver (.object RX6)).before #[Value.ref b] s = true := hts _ (List.mem_of_getElem? (i := 537) (by decide +kernel))
  obtain ⟨y6, a6, b6⟩ := lw_arrO o6
  have o7 : (Cond.arrayOver (.object RX7)).before #[Value.ref b] s = true := hts _ (List.mem_of_getElem? (i := 465) (by decide +kernel))
  obtain ⟨y7, a7, b7⟩ := lw_arrO o7
  obtain ⟨cy, hcy⟩ : ∃ cy : Nat → ClassId, cy 0 = y0 ∧ cy 1 = y1 ∧ cy 2 = y2 ∧ cy 3 = y3 ∧ cy 4 = y4 ∧ cy 5 = y5 ∧ cy 6 = y6 ∧ cy 7 = y7 := ⟨fun k => [y0, y1, y2, y3, y4, y5, y6, y7].getD k y0, rfl, rfl, rfl, rfl, rfl, rfl, rfl, rfl⟩
  obtain ⟨z0, z1, z2, z3, z4, z5, z6, z7⟩ := hcy
  have hKt : ∀ (k : Nat) (q : ClassId × FieldType), (hs_tys cy)[k]? = some q → ArrOfT s q.1 q.2 ∧ va_RA s q.1 q.2 := by
    intro k q hq
    match k, hq with
    | 0, hq => cases hq; rw [z0]; exact ⟨a0, b0⟩
    | 1, hq => cases hq; rw [z1]; exact ⟨a1, b1⟩
    | 2, hq => cases hq; rw [z2]; exact ⟨a2, b2⟩
    | 3, hq => cases hq; rw [z3]; exact ⟨a3, b3⟩
    | 4, hq => cases hq; rw [z4]; exact ⟨a4, b4⟩
    | 5, hq => cases hq; rw [z5]; exact ⟨a5, b5⟩
    | 6, hq => cases hq; rw [z6]; exact ⟨a6, b6⟩
    | 7, hq => cases hq; rw [z7]; exact ⟨a7, b7⟩
    | k + 8, hq => simp [hs_tys] at hq
  obtain ⟨aK, aV, hS⟩ := lw_str hts hgv
  refine ⟨(dC, dI), cy, aK, aV, fun l q => ⟨⟨hKc, hKt⟩, fun w hw => ?_, ⟨va_AO.of o5, va_AO.of o6, va_AO.of o7⟩, hS⟩⟩
  have h1 := List.mem_filter.mp hw
  have h2 := hts w (List.mem_append_right _ h1.1)
  have h3 := h1.2
  cases w <;> first | exact va_Nw.of rfl h2 | (simp [hs_isN] at h3)
theorem lc_7 : Cond.classLink R_law 7 RX11 ∈ hs_T := (hs_inT 152 (by decide +kernel) rfl)
theorem lc_10 : Cond.classLink R_law 10 RX12 ∈ hs_T := (hs_inT 1185 (by decide +kernel) rfl)
section LWI
variable {p : Program} {e : Env} {s : State} {m : MethodId} {args : Array Value} {below : List Frame} {meth : Method} {c : Code} {H : Heap} {locs : List Loc} {ls : Array Slot} {Q : State → Prop} {R : Room} {cells slots pc : Nat} {cc : ByteArray}
/-- a constructor, called by the law, of the one cell that it has just made -/
theorem lw_ctor {G : GP} {σ σ' : Sto} {idx h' nL mc' ms' : Nat} {own : String} {M' : Mt} {ws : va_W} {F : Option (Unit × Sto)} {rest st0 : List Value} (hx : p.tables.exec = Jvm.exec) (hb : c.code = cc) (hml : c.maxLocals = nL) (hown : s.vm.findClass own = some m.cls) (hts : ∀ w ∈ hs_T, w.before args s = true) (hX : hs_X G (lw_A s) s s.heap) (hP : va_P G.2.1 vwCl (hs_w G.2.2.1 G.2.2.2.1 σ) H) (hD : va_D (lw_A s) (hs_w G.2.2.1 G.2.2.2.1 σ)) (hS : va_S (lw_A s) s.heap H locs) (hsz : H.size = G.2.2.1 + σ.1) (hls : ls.size = nL)
    (hF : hs_MF M' 0) (hV : Cond.instanceMethod M'.1 ∈ hs_T) (hr : M'.2.2.2 = none) (hnm : M'.1.name = "<init>") (hL : Cond.methodLink own idx M'.1 ∈ hs_T) (hd : decode cc pc = .ok (.invokespecial idx, 3)) (hMe : Me G M' h' mc' ms' jV [.ref 0] σ F) (hF1 : F = some ((), σ')) (hR : h' + 1 ≤ R.frames ∧ 8 + (M'.2.2.1 + 11) + 64 * h' ≤ R.locals)
    (hst : st0 = .ref G.2.2.1 :: rest) (hsum : (rest.map fun v => v.category).sum ≤ 8) (hk : cells + mc' ≤ R.cells ∧ slots + ms' ≤ R.slots)
    (kk : ∀ (H1 : Heap) (locs1 : List Loc), va_P G.2.1 vwCl (hs_w G.2.2.1 G.2.2.2.1 σ') H1 → va_D (lw_A s) (hs_w G.2.2.1 G.2.2.2.1 σ') → va_S (lw_A s) s.heap H1 locs1 → σ'.1 = σ.1 + mc' → (∀ q : Nat, q < H.size → ¬ hs_A G.2.2.1 σ.1 H.size q → H1[q]? = H[q]?) → W p G.1 e R s m args below meth c H1 locs1 (cells + mc') (slots + ms') Q (F0 m (pc + 3) ls rest)) : W p G.1 e R s m args below meth c H locs cells slots Q (F0 m pc ls st0) := by
  subst hst
  have hMet := hMe () σ' hF1 H.size (fun _ => hsz)
  obtain ⟨y', cc', nL', ret'⟩ := M'
  dsimp only at hr hnm
  subst hr
  obtain ⟨f1, f2, f3, f4, f5⟩ := hF
  have hAL := hs_AL (H := H) hD hS.1
  have hpre : PreS s H (va_Pc ([Value.ref 0].map (hs_v G.2.2.1)) (fun U => U.heap.size = H.size ∧ va_P G.2.1 vwCl (hs_w G.2.2.1 G.2.2.2.1 σ) U.heap ∧ hs_X G (hs_A G.2.2.1 σ.1 H.size) U U.heap ∧ va_D (fun _ => True) (hs_w G.2.2.1 G.2.2.2.1 σ))) ([Value.ref 0].map (hs_v G.2.2.1)) := by
    refine ⟨fun a U g mk hq => ?_, fun U hU hW => ⟨rfl, by rw [hU], by rw [hU]; exact hP, ?_, hD.weaken (fun _ _ _ _ => trivial)⟩⟩
    · obtain ⟨q1, q2, q3, q4, q5⟩ := hq
      exact ⟨q1, q2, q3, hs_X.same (u := U) rfl q4, q5⟩
    · rw [hU]
      exact ((hX.kept hS.2.1).warm hW).narrow hAL
  have hrun : va_Run p G.1 e R s m args below meth c H locs cells slots mc' ms' (F0 m pc ls (.ref G.2.2.1 :: rest)) rest (hs_Q G σ.1 mc' jV () σ' (Value.ref G.2.2.1 :: []).toArray) (hs_A G.2.2.1 σ.1 H.size) :=
    va_runI (As := []) (n := 0) (Ts := hs_T) (own := own) (b := G.2.2.1) ⟨hx, hb, hml, hown, hts⟩ hMet ⟨callB_of 0 hts (hs_good f1) rfl rfl rfl (hts _ f2) (hts _ hL) ⟨f3, f4, f5⟩ hR, hnm, hts _ hV⟩ hpre rfl rfl hls rfl (lv_room hsum) hd hk
  intro T0 hT0 X0
  obtain ⟨v, st₀, t, T', L, h0, X', hL', e1, e2, ⟨⟨hv, hp, hdd, hn⟩, hz, hkk⟩, stp⟩ := hrun T0 hT0 X0
  have hv' : v = none := by cases hv; rfl
  rw [h0] at hz hkk hdd
  have hS1 : va_S (lw_A s) s.heap t.heap (locs ++ L) := by
    refine ⟨Nat.le_trans hS.1 hz, fun q g1 g2 => ?_, fun q hq => ?_⟩
    · rw [hkk q (Nat.lt_of_lt_of_le g1 hS.1) (fun z => g2 (hAL q z))]
      exact hS.2.1 q g1 g2
    · rcases List.mem_append.mp hq with g | g
      · exact hS.2.2 q g
      · exact hAL _ (hL' q g)
  obtain ⟨t2, a1, b1⟩ := kk t.heap (locs ++ L) hp (hdd.weaken (fun _ _ _ g => hAL _ g)) hS1 hn hkk T' e1 X'
  refine ⟨t2, stp t2 ?_, b1⟩
  rw [hv']
  exact a1
end LWI
theorem hs_w1 (q : Nat) (cy : Nat → ClassId) (c : PC) : hs_w q cy (1, fun _ => c) = [(q, hs_e q cy c)] := rfl
set_option maxHeartbeats 4000000 in
set_option maxRecDepth 100000 in
/-- THE LAW, from its entry, for class and model that agree -/
theorem law_start (Rel : Sto → Sto → Prop) (hOK : LawOK Rel) (hO : ∀ σc σm, Rel σc σm → (∃ fs, hs_o σc 11 0 = some fs) ∧ ∃ fs, hs_o σm 12 0 = some fs) {σc σm : Sto} (hcI : fX11_init 0 iC = some ((), σc)) (hmI : fX12_init 0 iM = some ((), σm)) (hR : Rel σc σm)
    {p : Program} {e : Env} {s : State} {m : MethodId} {below : List Frame} {meth : Method} {c : Code} (l : Launch) {b L : Nat} {xs : Nat → Int32} (hL : L ≤ 3072) (C0 : lw_At p s m meth c b L xs) : W p l e room_1 s m #[Value.ref b] below meth c s.heap [] 0 0 (lw_Z below #[Value.ref b] s) (entryFrame m ([Value.ref b] : List Value).toArray 4) := by
  obtain ⟨hx, hb, hr, hml, hown, hts0, hX, hbl, hlocks, hgv⟩ := id C0
  have hts : ∀ w ∈ hs_T, w.before #[Value.ref b] s = true := fun w hw => hts0 w (List.mem_filter.mp hw).1
  obtain ⟨D, cy, aK, aV, hctx⟩ := lw_ctx hts0 hgv
  have hK : va_K D vwCl (hs_tys cy) s := (hctx l 0).1
  have hA : ∀ q : Nat, s.heap.size ≤ q → lw_A s q := fun _ h => h
  have hS : va_S (lw_A s) s.heap s.heap [] := va_S.rf
  have hP : va_P D vwCl [] s.heap := fun k q h => by simp at h
  have hD : va_D (lw_A s) [] := ⟨fun i j p q h => by simp at h, fun k q h => by simp at h⟩
  have hl := lv_entry ([.ref b]) (n := 4) (Nat.le_of_ble_eq_true rfl)
  rw [lg_entry_eq]
  generalize (lg_sl ([.ref b]) ++ List.replicate (4 - (lg_sl ([.ref b])).length) Slot.unset).toArray = ls at hl ⊢
  have hl : lv_has ls 4 [(0, .ref b)] := hl
  refine va_new (ci := 11) (fs := [.null, .int 0, .null, .null, .null, .null, .null, .null, .null, .null, .null, .null, .null, .null, .null]) (C := RX11) (T := TX11) (N := 15) hx hb hts cfX11 tyX11 tyX11_ok hown (hts _ lc_7) (hts _ itX11) (hts _ izX11) hK hP hD hS hA rfl (by decide +kernel) (Nat.le_of_ble_eq_true rfl) (Nat.le_of_ble_eq_true rfl) dL_law_0 (fun qc H1 hP1 hD1 hS1 => ?_)
  intro T0 hT0 X0
  have hz1 : H1.size ≤ s.heap.size + (0 + 1) := by rw [← hT0]; exact X0.same.2.2.1
  have hq1 := (hP1 0 _ rfl).lt
  have hq2 : s.heap.size ≤ qc := hD1.2 0 _ rfl
  dsimp only at hq1
  have hsz1 : H1.size = qc + 1 := by omega
  have hqc : qc = s.heap.size := by omega
  revert T0 hT0 X0
  show W p l e room_1 s m #[Value.ref b] below meth c H1 [] (0 + 1) (0 + 15) (lw_Z below #[Value.ref b] s) (F0 m (0 + 3) ls [.ref qc])
  refine lv_dup hx hb dL_law_3 rfl ?_
  refine lw_ctor (G := (l, D, qc, cy, aK, aV)) (σ := iC) (M' := mX11_init) (h' := 9) (mc' := 192) (ms' := 6087) (ws := []) (rest := [.ref qc]) hx hb hml hown hts (hctx l qc) hP1 hD1 hS1 hsz1 hl.1 mfX11_init miX11_init rfl rfl ll_9 dL_law_4 (kX11_init (l, D, qc, cy, aK, aV) 0 iC) hcI ⟨Nat.le_of_ble_eq_true rfl, Nat.le_of_ble_eq_true rfl⟩ rfl (Nat.le_of_ble_eq_true rfl) ⟨Nat.le_of_ble_eq_true rfl, Nat.le_of_ble_eq_true rfl⟩ (fun H2 locs2 hP2 hD2 hS2 hn2 hk2 => ?_)
  have hnC : σc.1 = 193 := hn2
  refine lv_astore_n (lv' := [(1, .ref qc), (0, .ref b)]) hx hb dL_law_7 rfl hl (by decide) rfl (fun ls hl => ?_)
  refine va_new (ci := 12) (fs := [.int 0, .null, .int 0, .null, .int 0, .null, .null, .null, .null, .null, .int 0, .int 0, .int 0, .int 0, .int 0, .int 0, .int 0, .int 0, .int 0, .int 0, .int 0, .null, .null, .null, .null, .null, .null, .null, .null, .null, .null, .null, .null, .int 0, .null, .null, .null, .null, .null, .int 0, .null, .null, .null, .int 0, .null, .null, .int 0, .null, .null, .int 0, .int 0, .int 0, .null, .null, .null, .int 0, .null, .null, .long 0, .long 0, .int 0, .null, .int 0, .null, .null, .null, .null, .null, .null]) (C := RX12) (T := TX12) (N := 69) hx hb hts cfX12 tyX12 tyX12_ok hown (hts _ lc_10) (hts _ itX12) (hts _ izX12) hK hP2 hD2 hS2 hA rfl (by decide +kernel) (Nat.le_of_ble_eq_true rfl) (Nat.le_of_ble_eq_true rfl) dL_law_8 (fun qm H3 hP3 hD3 hS3 => ?_)
  intro T0 hT0 X0
  have hz3 : H3.size ≤ s.heap.size + (0 + 1 + 192 + 1) := by rw [← hT0]; exact X0.same.2.2.1
  have hat : (hs_w qc cy σc ++ [(qm, (.inr (12, [.int 0, .null, .int 0, .null, .int 0, .null, .null, .null, .null, .null, .int 0, .int 0, .int 0, .int 0, .int 0, .int 0, .int 0, .int 0, .int 0, .int 0, .int 0, .null, .null, .null, .null, .null, .null, .null, .null, .null, .null, .null, .null, .int 0, .null, .null, .null, .null, .null, .int 0, .null, .null, .null, .int 0, .null, .null, .int 0, .null, .null, .int 0, .int 0, .int 0, .null, .null, .null, .int 0, .null, .null, .long 0, .long 0, .int 0, .null, .int 0, .null, .null, .null, .null, .null, .null]) : va_E))])[193]? = some (qm, .inr (12, [.int 0, .null, .int 0, .null, .int 0, .null, .null, .null, .null, .null, .int 0, .int 0, .int 0, .int 0, .int 0, .int 0, .int 0, .int 0, .int 0, .int 0, .int 0, .null, .null, .null, .null, .null, .null, .null, .null, .null, .null, .null, .null, .int 0, .null, .null, .null, .null, .null, .int 0, .null, .null, .null, .int 0, .null, .null, .int 0, .null, .null, .int 0, .int 0, .int 0, .null, .null, .null, .int 0, .null, .null, .long 0, .long 0, .int 0, .null, .int 0, .null, .null, .null, .null, .null, .null])) := by
    rw [List.getElem?_append_right (by rw [hs_wlen, hnC]; exact Nat.le_refl _), hs_wlen, hnC]
    rfl
  have hold : ∀ k, k < 193 → (hs_w qc cy σc ++ [(qm, (.inr (12, [.int 0, .null, .int 0, .null, .int 0, .null, .null, .null, .null, .null, .int 0, .int 0, .int 0, .int 0, .int 0, .int 0, .int 0, .int 0, .int 0, .int 0, .int 0, .null, .null, .null, .null, .null, .null, .null, .null, .null, .null, .null, .null, .int 0, .null, .null, .null, .null, .null, .int 0, .null, .null, .null, .int 0, .null, .null, .int 0, .null, .null, .int 0, .int 0, .int 0, .null, .null, .null, .int 0, .null, .null, .long 0, .long 0, .int 0, .null, .int 0, .null, .null, .null, .null, .null, .null]) : va_E))])[k]? = some (qc + k, hs_e qc cy (σc.2 k)) := fun k hk => by
    rw [List.getElem?_append_left (by rw [hs_wlen, hnC]; exact hk)]
    exact hs_wget (by rw [hnC]; exact hk)
  have hq3 := (hP3 193 _ hat).lt
  have hq4 : s.heap.size ≤ qm := hD3.2 193 _ hat
  dsimp only at hq3
  have hq5 : ∀ k, k < 193 → qm ≠ qc + k := fun k hk he => by
    have := hD3.1 k 193 _ _ (hold k hk) hat he.symm
    omega
  have hq6 : qm = qc + 193 := by
    by_cases h : qm < qc + 193
    · exact absurd (show qm = qc + (qm - qc) by omega) (hq5 _ (by omega))
    · omega
  have hsz3 : H3.size = qm + 1 := by omega
  have hPc3 : va_P D vwCl (hs_w qc cy σc) H3 := fun k q hq => hP3 k q (by rw [List.getElem?_append_left (List.getElem?_eq_some_iff.mp hq).1]; exact hq)
  have hDc3 : va_D (lw_A s) (hs_w qc cy σc) := hD2
  have hPm3 : va_P D vwCl (hs_w qm cy iM) H3 := fun k q hq => by
    obtain ⟨g1, g2⟩ := hs_wat hq
    have g3 : k = 0 := Nat.lt_one_iff.mp g1
    subst g3
    rw [g2]
    exact hP3 193 _ hat
  have hDm3 : va_D (lw_A s) (hs_w qm cy iM) := ⟨fun i j p q hi hj _ => by
      have g1 : i < 1 := (hs_wat hi).1
      have g2 : j < 1 := (hs_wat hj).1
      omega, fun k q hq => by
      obtain ⟨g1, g2⟩ := hs_wat hq
      rw [g2]
      show s.heap.size ≤ qm + k
      omega⟩
  revert T0 hT0 X0
  show W p l e room_1 s m #[Value.ref b] below meth c H3 locs2 (0 + 1 + 192 + 1) (0 + 15 + 6087 + 69) (lw_Z below #[Value.ref b] s) (F0 m (8 + 3) ls [.ref qm])
  refine lv_dup hx hb dL_law_11 rfl ?_
  refine lw_ctor (G := (l, D, qm, cy, aK, aV)) (σ := iM) (M' := mX12_init) (h' := 3) (mc' := 43) (ms' := 10542) (ws := []) (rest := [.ref qm]) hx hb hml hown hts (hctx l qm) hPm3 hDm3 hS3 hsz3 hl.1 mfX12_init miX12_init rfl rfl ll_12 dL_law_12 (kX12_init (l, D, qm, cy, aK, aV) 0 iM) hmI ⟨Nat.le_of_ble_eq_true rfl, Nat.le_of_ble_eq_true rfl⟩ rfl (Nat.le_of_ble_eq_true rfl) ⟨Nat.le_of_ble_eq_true rfl, Nat.le_of_ble_eq_true rfl⟩ (fun H4 locs4 hP4 hD4 hS4 hn4 hk4 => ?_)
  have hPc4 : va_P D vwCl (hs_w qc cy σc) H4 := by
    refine hPc3.kept (fun k q hq => ?_)
    obtain ⟨g1, g2⟩ := hs_wat hq
    have g3 := (hPc3 k q hq).lt
    refine hk4 _ g3 ?_
    rw [g2] at g3 ⊢
    dsimp only at g3 ⊢
    have g4 : iM.1 = 1 := rfl
    rintro (⟨z1, z2⟩ | z1)
    · rw [g4] at z2
      omega
    · omega
  refine lv_astore_n (lv' := [(2, .ref qm), (1, .ref qc), (0, .ref b)]) hx hb dL_law_15 rfl hl (by decide) rfl (fun ls hl => ?_)
  refine lv_iconst (v := 0) hx hb dL_law_16 (by decide) ?_
  refine lv_istore_n (lv' := [(3, .int 0), (2, .ref qm), (1, .ref qc), (0, .ref b)]) hx hb dL_law_17 rfl hl (by decide) rfl (fun ls hl => ?_)
  refine W.widen (k := 600000) (n := 7302250) (Nat.le_of_ble_eq_true rfl) (Nat.le_of_ble_eq_true rfl) ?_
  exact law_loop (D := D) (cy := cy) (aK := aK) (aV := aV) (qc := qc) (qm := qm) hL C0 Rel hOK hO (hctx l qc) (hctx l qm) (L + 7) 0 0 H4 locs4 σc σm ls (by omega) (by omega) nI_0.symm ⟨hPc4, hP4, hDc3, hD4, Or.inl (by show qc + σc.1 ≤ qm; omega), hS4⟩ hR (lv_sub hl [3, 2, 1, 0] rfl)
