/-! ===== THE PURE STORE: cells by their numbers; cell k lies at the address q + k ===== -/
abbrev PC : Type := (Nat × vp_A) ⊕ (Nat × List Value)
abbrev Sto : Type := Nat × (Nat → PC)
def hs_v (q : Nat) : Value → Value
  | .ref k => .ref (q + k)
  | .int v => .int v
  | .long v => .long v
  | .float v => .float v
  | .double v => .double v
  | .null => .null
  | .retAddr v => .retAddr v
def hs_a (q : Nat) : vp_A → vp_A
  | (n, .inl f) => (n, .inl f)
  | (n, .inr (.inl f)) => (n, .inr (.inl f))
  | (n, .inr (.inr (.inl f))) => (n, .inr (.inr (.inl f)))
  | (n, .inr (.inr (.inr (.inl f)))) => (n, .inr (.inr (.inr (.inl f))))
  | (n, .inr (.inr (.inr (.inr f)))) => (n, .inr (.inr (.inr (.inr (fun j => (f j).map (fun k => q + k))))))
def hs_e (q : Nat) (cy : Nat → ClassId) : PC → va_E
  | .inl x => .inl (cy x.1, hs_a q x.2)
  | .inr x => .inr (x.1, x.2.map (hs_v q))
def hs_w (q : Nat) (cy : Nat → ClassId) (σ : Sto) : va_W := (List.range σ.1).map (fun k => (q + k, hs_e q cy (σ.2 k)))
theorem hs_wlen (q : Nat) (cy : Nat → ClassId) (σ : Sto) : (hs_w q cy σ).length = σ.1 := by simp [hs_w]
theorem hs_wget {q : Nat} {cy : Nat → ClassId} {σ : Sto} {k : Nat} (h : k < σ.1) : (hs_w q cy σ)[k]? = some (q + k, hs_e q cy (σ.2 k)) := by
  simp [hs_w, h]
theorem hs_wat {q : Nat} {cy : Nat → ClassId} {σ : Sto} {k : Nat} {x : Nat × va_E} (h : (hs_w q cy σ)[k]? = some x) : k < σ.1 ∧ x = (q + k, hs_e q cy (σ.2 k)) := by
  have hk : k < σ.1 := by rw [← hs_wlen q cy σ]; exact (List.getElem?_eq_some_iff.mp h).1
  rw [hs_wget hk] at h
  exact ⟨hk, (Option.some.inj h).symm⟩
theorem hs_wset {q : Nat} {cy : Nat → ClassId} {σ : Sto} {k : Nat} (c : PC) {x : va_E} (hx : x = hs_e q cy c) : (hs_w q cy σ).set k (q + k, x) = hs_w q cy (σ.1, va_up σ.2 k c) := by
  subst hx
  apply List.ext_getElem?
  intro j
  by_cases hj : j < σ.1
  · rw [hs_wget (σ := (σ.1, va_up σ.2 k c)) hj]
    by_cases hjk : k = j
    · subst hjk
      rw [List.getElem?_set_self (by rw [hs_wlen]; exact hj)]
      simp [va_up]
    · rw [List.getElem?_set_ne hjk, hs_wget hj]
      simp [va_up, Ne.symm hjk]
  · rw [List.getElem?_eq_none (by rw [List.length_set, hs_wlen]; omega), List.getElem?_eq_none (by rw [hs_wlen]; exact Nat.le_of_not_lt hj)]
theorem hs_wpush {q : Nat} {cy : Nat → ClassId} {σ : Sto} (c : PC) {x : va_E} (hx : x = hs_e q cy c) : hs_w q cy σ ++ [(q + σ.1, x)] = hs_w q cy (σ.1 + 1, va_up σ.2 σ.1 c) := by
  subst hx
  apply List.ext_getElem?
  intro j
  by_cases hj : j < σ.1
  · rw [hs_wget (σ := (σ.1 + 1, va_up σ.2 σ.1 c)) (Nat.lt_succ_of_lt hj), List.getElem?_append_left (by rw [hs_wlen]; exact hj), hs_wget hj]
    simp [va_up, Nat.ne_of_lt hj]
  · rw [List.getElem?_append_right (by rw [hs_wlen]; omega), hs_wlen]
    by_cases hj2 : j = σ.1
    · subst hj2
      rw [hs_wget (σ := (σ.1 + 1, va_up σ.2 σ.1 c)) (Nat.lt_succ_self _)]
      simp [va_up]
    · rw [List.getElem?_eq_none (by simp; omega), List.getElem?_eq_none (by rw [hs_wlen]; show σ.1 + 1 ≤ j; omega)]
/-! reading and writing -/
def hs_o (σ : Sto) (ci h : Nat) : Option (List Value) := if h < σ.1 then (match σ.2 h with
  | .inr x => if x.1 = ci then some x.2 else none
  | .inl _ => none) else none
def hs_r (σ : Sto) (t h : Nat) : Option vp_A := if h < σ.1 then (match σ.2 h with
  | .inl x => if x.1 = t then some x.2 else none
  | .inr _ => none) else none
theorem hs_o_of {σ : Sto} {ci h : Nat} {fs : List Value} (e : hs_o σ ci h = some fs) : h < σ.1 ∧ σ.2 h = .inr (ci, fs) := by
  unfold hs_o at e
  split at e
  · rename_i hlt
    refine ⟨hlt, ?_⟩
    cases hc : σ.2 h with
    | inl x => rw [hc] at e; cases e
    | inr x =>
      rw [hc] at e
      dsimp only at e
      split at e
      · rename_i h1
        cases e
        obtain ⟨a, b⟩ := x
        cases h1
        rfl
      · cases e
  · cases e
theorem hs_r_of {σ : Sto} {t h : Nat} {x : vp_A} (e : hs_r σ t h = some x) : h < σ.1 ∧ σ.2 h = .inl (t, x) := by
  unfold hs_r at e
  split at e
  · rename_i hlt
    refine ⟨hlt, ?_⟩
    cases hc : σ.2 h with
    | inr x => rw [hc] at e; cases e
    | inl x =>
      rw [hc] at e
      dsimp only at e
      split at e
      · rename_i h1
        cases e
        obtain ⟨a, b⟩ := x
        cases h1
        rfl
      · cases e
  · cases e
def gI (σ : Sto) (ci h k : Nat) : Option Int32 := match hs_o σ ci h with
  | some fs => (match fs[k]? with
    | some (.int v) => some v
    | _ => none)
  | none => none
def gL (σ : Sto) (ci h k : Nat) : Option Int64 := match hs_o σ ci h with
  | some fs => (match fs[k]? with
    | some (.long v) => some v
    | _ => none)
  | none => none
def gR (σ : Sto) (ci h k : Nat) : Option Nat := match hs_o σ ci h with
  | some fs => (match fs[k]? with
    | some (.ref v) => some v
    | _ => none)
  | none => none
def pV (σ : Sto) (ci h k : Nat) (v : Value) : Option Sto := match hs_o σ ci h with
  | some fs => if k < fs.length then some (σ.1, va_up σ.2 h (.inr (ci, fs.set k v))) else none
  | none => none
def aI (σ : Sto) (t h : Nat) (i : Int32) : Option Int32 := match hs_r σ t h with
  | some (n, .inl f) => if i < 0 ∨ n ≤ i.toNatClampNeg then none else some (f i.toNatClampNeg)
  | _ => none
def aL (σ : Sto) (t h : Nat) (i : Int32) : Option Int64 := match hs_r σ t h with
  | some (n, .inr (.inl f)) => if i < 0 ∨ n ≤ i.toNatClampNeg then none else some (f i.toNatClampNeg)
  | _ => none
def aR (σ : Sto) (t h : Nat) (i : Int32) : Option Nat := match hs_r σ t h with
  | some (n, .inr (.inr (.inr (.inr f)))) => if i < 0 ∨ n ≤ i.toNatClampNeg then none else f i.toNatClampNeg
  | _ => none
def hs_nar (t : Nat) (x : Int32) : Int32 := if t = 0 then vp_nar .byte x else if t = 1 then vp_nar .char x else if t = 4 then vp_nar .boolean x else x
def sI (σ : Sto) (t h : Nat) (i x : Int32) : Option Sto := match hs_r σ t h with
  | some (n, .inl f) => if i < 0 ∨ n ≤ i.toNatClampNeg then none else some (σ.1, va_up σ.2 h (.inl (t, n, .inl (upd f i.toNatClampNeg (hs_nar t x)))))
  | _ => none
def sL (σ : Sto) (t h : Nat) (i : Int32) (x : Int64) : Option Sto := match hs_r σ t h with
  | some (n, .inr (.inl f)) => if i < 0 ∨ n ≤ i.toNatClampNeg then none else some (σ.1, va_up σ.2 h (.inl (t, n, .inr (.inl (vp_updL f i.toNatClampNeg x)))))
  | _ => none
def sR (σ : Sto) (t ci h : Nat) (i : Int32) (v : Nat) : Option Sto := match hs_r σ t h, hs_o σ ci v with
  | some (n, .inr (.inr (.inr (.inr f)))), some _ => if i < 0 ∨ n ≤ i.toNatClampNeg then none else some (σ.1, va_up σ.2 h (.inl (t, n, .inr (.inr (.inr (.inr (va_up f i.toNatClampNeg (some v))))))))
  | _, _ => none
def nC (σ : Sto) (c : PC) : Sto := (σ.1 + 1, va_up σ.2 σ.1 c)
/-- an instance method's first check: its receiver is an object of its class -/
def ck {α : Type} (σ : Sto) (ci h : Nat) (X : Option α) : Option α := match hs_o σ ci h with
  | some _ => X
  | none => none
theorem ck_of {α : Type} {σ : Sto} {ci h : Nat} {X : Option α} {r : α} (e : ck σ ci h X = some r) : (∃ fs, hs_o σ ci h = some fs) ∧ X = some r := by
  unfold ck at e
  cases hc : hs_o σ ci h with
  | none => rw [hc] at e; cases e
  | some fs => rw [hc] at e; exact ⟨⟨fs, rfl⟩, e⟩
def rZ (v : Int32) (σ : Sto) : Option (Int32 × Sto) := if v = 0 ∨ v = 1 then some (v, σ) else none
theorem bindE {α β : Type} {a : Option α} {f : α → Option β} {r : β} (h : a.bind f = some r) : ∃ x, a = some x ∧ f x = some r := Option.bind_eq_some_iff.mp h
/-! ===== THE CONTEXT ===== -/
abbrev GP : Type := Launch × va_G × Nat × (Nat → ClassId) × (Nat → Nat) × (Nat → Nat)
abbrev Mt : Type := MethodName × ByteArray × Nat × Option FieldType
def hs_tys (cy : Nat → ClassId) : List (ClassId × FieldType) := [(cy 0, .byte), (cy 1, .char), (cy 2, .int), (cy 3, .long), (cy 4, .boolean), (cy 5, .object RX5), (cy 6, .object RX6), (cy 7, .object RX7)]
def hs_T : List Cond := lw_tbl.filter goodWord
def hs_isN : Cond → Bool
  | .methodLinkNest .. => true
  | .fieldLinkNest .. => true
  | _ => false
def hs_N : List Cond := tables_1.filter hs_isN
theorem hs_inT {w : Cond} (i : Nat) (h : lw_tbl[i]? = some w) (hg : goodWord w = true) : w ∈ hs_T := List.mem_filter.mpr ⟨List.mem_of_getElem? h, hg⟩
theorem hs_inN {w : Cond} (i : Nat) (h : tables_1[i]? = some w) (hg : hs_isN w = true) : w ∈ hs_N := List.mem_filter.mpr ⟨List.mem_of_getElem? h, hg⟩
def hs_R (h mc ms : Nat) : Room := { frames := h, cells := mc, slots := ms, locals := 64 * h }
def hs_A (q n sz : Nat) : Nat → Prop := fun a => (q ≤ a ∧ a < q + n) ∨ sz ≤ a
def hs_s0 : String := "book heavy table pile fly at glued on if then else long told level place above "
def hs_s1 : String := ";=+-*/<()"
def hs_len : List Nat := [79, 9]
def hs_byt : List (List Int32) := [[98, 111, 111, 107, 32, 104, 101, 97, 118, 121, 32, 116, 97, 98, 108, 101, 32, 112, 105, 108, 101, 32, 102, 108, 121, 32, 97, 116, 32, 103, 108, 117, 101, 100, 32, 111, 110, 32, 105, 102, 32, 116, 104, 101, 110, 32, 101, 108, 115, 101, 32, 108, 111, 110, 103, 32, 116, 111, 108, 100, 32, 108, 101, 118, 101, 108, 32, 112, 108, 97, 99, 101, 32, 97, 98, 111, 118, 101, 32], [59, 61, 43, 45, 42, 47, 60, 40, 41]]
def hs_S (aK aV : Nat → Nat) (A : Nat → Prop) (U : State) (H : Heap) : Prop := vk_R RX9 29 hs_s0 (aK 0) U ∧ vk_R RX9 69 hs_s1 (aK 1) U ∧ vk_S 2 hs_len hs_byt aK aV A U H ∧ va_Z "java/lang/String" "COMPACT_STRINGS" "Z" (.int 1) A U H ∧ va_Zq "jdk/internal/util/Preconditions" "SIOOBE_FORMATTER" "Ljava/util/function/BiFunction;" A U H
def hs_X (G : GP) (A : Nat → Prop) (U : State) (H : Heap) : Prop := va_K G.2.1 vwCl (hs_tys G.2.2.2.1) U ∧ (∀ w ∈ hs_N, va_Nw w U) ∧ (va_AO RX5 U ∧ va_AO RX6 U ∧ va_AO RX7 U) ∧ hs_S G.2.2.2.2.1 G.2.2.2.2.2 A U H
theorem hs_Nwarm {s U : State} (hW : s.WarmedH U.vm) (h : ∀ w ∈ hs_N, va_Nw w s) : ∀ w ∈ hs_N, va_Nw w U := by
  intro w hw
  have h1 := h w hw
  have h2 := (List.mem_filter.mp hw).2
  cases w <;> first | exact va_Nw.warmM hW h1 | exact va_Nw.warmF hW h1 | (simp [hs_isN] at h2)
theorem hs_X.warm {G : GP} {A : Nat → Prop} {s U : State} {H : Heap} (hW : s.WarmedH U.vm) (h : hs_X G A s H) : hs_X G A U H := by
  obtain ⟨h1, h2, ⟨h3, h4, h5⟩, h6, h7, h8, h9, h10⟩ := h
  have ha := hW.alike
  exact ⟨va_K.moved ha h1, hs_Nwarm hW h2, ⟨va_AO.moved ha h3, va_AO.moved ha h4, va_AO.moved ha h5⟩, vk_R.warm hW h6, vk_R.warm hW h7, vk_S.moved ha h8, va_Z.moved ha h9, va_Zq.moved ha h10⟩
theorem hs_X.same {G : GP} {A : Nat → Prop} {u U : State} {H : Heap} (hv : U.vm = u.vm) (h : hs_X G A u H) : hs_X G A U H := by
  obtain ⟨h1, h2, ⟨h3, h4, h5⟩, h6, h7, h8, h9, h10⟩ := h
  have ha : u.vm.Alike U.vm := by rw [hv]; exact Vm.Alike.refl _
  refine ⟨va_K.moved ha h1, fun w hw => ?_, ⟨va_AO.moved ha h3, va_AO.moved ha h4, va_AO.moved ha h5⟩, vk_R.same hv h6, vk_R.same hv h7, vk_S.moved ha h8, va_Z.moved ha h9, va_Zq.moved ha h10⟩
  have h2' := (List.mem_filter.mp hw).2
  have hN := h2 w hw
  cases w <;> first | exact va_Nw.same rfl hv.symm hN | (simp [hs_isN] at h2')
theorem hs_X.kept {G : GP} {A : Nat → Prop} {U : State} {H H1 : Heap} (h : hs_X G A U H) (hq : ∀ a : Nat, a < H.size → ¬ A a → H1[a]? = H[a]?) : hs_X G A U H1 :=
  ⟨h.1, h.2.1, h.2.2.1, h.2.2.2.1, h.2.2.2.2.1, h.2.2.2.2.2.1.kept hq, h.2.2.2.2.2.2.1.kept hq, h.2.2.2.2.2.2.2.kept hq⟩
theorem hs_X.narrow {G : GP} {A B : Nat → Prop} {U : State} {H : Heap} (h : hs_X G A U H) (hAB : ∀ q, B q → A q) : hs_X G B U H :=
  ⟨h.1, h.2.1, h.2.2.1, h.2.2.2.1, h.2.2.2.2.1, h.2.2.2.2.2.1.narrow hAB, h.2.2.2.2.2.2.1.narrow hAB, h.2.2.2.2.2.2.2.narrow hAB⟩
/-- what holds of a method's run: the machine, its code, the words, its world -/
def hs_M (G : GP) (M : Mt) (mc n0 : Nat) (p : Program) (s : State) (m : MethodId) (args : Array Value) (meth : Method) (c : Code) : Prop :=
  p.tables.exec = Jvm.exec ∧ c.code = M.2.1 ∧ meth.sig.returnType = M.2.2.2 ∧ c.maxLocals = M.2.2.1 ∧ s.vm.findClass M.1.cls = some m.cls ∧ (∀ w ∈ hs_T, w.before args s = true) ∧ meth.locks = false ∧ meth.name = M.1.name ∧ (0 < mc → s.heap.size = G.2.2.1 + n0) ∧ hs_X G (hs_A G.2.2.1 n0 s.heap.size) s s.heap
def hs_C (G : GP) (n0 kc : Nat) (s : State) (H : Heap) (locs : List Loc) (σ : Sto) : Prop :=
  va_P G.2.1 vwCl (hs_w G.2.2.1 G.2.2.2.1 σ) H ∧ va_D (hs_A G.2.2.1 n0 s.heap.size) (hs_w G.2.2.1 G.2.2.2.1 σ) ∧ va_S (hs_A G.2.2.1 n0 s.heap.size) s.heap H locs ∧ σ.1 = n0 + kc
def hs_Q (G : GP) (n0 mc : Nat) {ρ : Type} (inj : ρ → Option Value) (r : ρ) (σ' : Sto) : Array Value → State → Outcome → State → Prop := fun _ st oc t =>
  (oc = .returned ((inj r).map (hs_v G.2.2.1)) ∧ va_P G.2.1 vwCl (hs_w G.2.2.1 G.2.2.2.1 σ') t.heap ∧ va_D (hs_A G.2.2.1 n0 st.heap.size) (hs_w G.2.2.1 G.2.2.2.1 σ') ∧ σ'.1 = n0 + mc) ∧ va_F (hs_A G.2.2.1 n0 st.heap.size) st t
def hs_L (q : Nat) (lv : List (Nat × Value)) : List (Nat × Value) := lv.map (fun x => (x.1, hs_v q x.2))
/-- from pc, with these locals, this stack and this store, the machine does what X says -/
def Sim (G : GP) (M : Mt) (h mc ms n0 : Nat) {ρ : Type} (inj : ρ → Option Value) (kc ks pc : Nat) (lv : List (Nat × Value)) (st : List Value) (σ : Sto) (X : Option (ρ × Sto)) : Prop :=
  ∀ (r : ρ) (σ' : Sto), X = some (r, σ') → ∀ (p : Program) (e : Env) (s : State) (m : MethodId) (args : Array Value) (below : List Frame) (meth : Method) (c : Code) (H : Heap) (locs : List Loc) (ls : Array Slot),
    hs_M G M mc n0 p s m args meth c → hs_C G n0 kc s H locs σ → lv_has ls M.2.2.1 (hs_L G.2.2.1 lv) →
    W p G.1 e (hs_R h mc ms) s m args below meth c H locs kc ks (MQ below (hs_Q G n0 mc inj r σ') args s mc ms (hs_A G.2.2.1 n0 s.heap.size)) (F0 m pc ls (st.map (hs_v G.2.2.1)))
/-- a method's contract -/
def Me (G : GP) (M : Mt) (h mc ms : Nat) {ρ : Type} (inj : ρ → Option Value) (av : List Value) (σ : Sto) (X : Option (ρ × Sto)) : Prop :=
  ∀ (r : ρ) (σ' : Sto), X = some (r, σ') → ∀ sz : Nat, (0 < mc → sz = G.2.2.1 + σ.1) →
    Met G.1 M.1 (.code M.1 M.2.1 M.2.2.1 M.2.2.2 :: hs_T) (hs_R h mc ms) (va_Pc (av.map (hs_v G.2.2.1)) (fun U => U.heap.size = sz ∧ va_P G.2.1 vwCl (hs_w G.2.2.1 G.2.2.2.1 σ) U.heap ∧ hs_X G (hs_A G.2.2.1 σ.1 sz) U U.heap ∧ va_D (fun _ => True) (hs_w G.2.2.1 G.2.2.2.1 σ))) (hs_Q G σ.1 mc inj r σ') mc ms (hs_A G.2.2.1 σ.1 sz)
