/-! ===== what holds while a text is read ===== -/
/-- the model's rows that a side owns -/
def SReg (sd a j : Nat) : Prop := ((a = 9 ∨ a = 12 ∨ a = 13) ∧ j = sd) ∨ ((a = 10 ∨ a = 11 ∨ a = 14 ∨ a = 15 ∨ a = 16 ∨ a = 18 ∨ a = 19) ∧ 6 * sd ≤ j ∧ j < 6 * sd + 6) ∨ (a = 17 ∧ 20 * sd ≤ j ∧ j < 20 * sd + 20) ∨ ((20 ≤ a ∧ a ≤ 24) ∧ 130 * sd ≤ j ∧ j < 130 * sd + 130) ∨ ((25 ≤ a ∧ a ≤ 26) ∧ 420 * sd ≤ j ∧ j < 420 * sd + 420) ∨ a = 27
def MFm (sd : Nat) (F F' : Nat → Int32) (A A' : Nat → Nat → Int32) (B B' : Nat → Nat → Int64) : Prop := (∀ k, ¬ (11 ≤ k ∧ k ≤ 16) → ¬ k = 20 → ¬ k = 33 → ¬ k = 39 → ¬ k = 43 → F' k = F k) ∧ (∀ a j, ¬ SReg sd a j → A' a j = A a j) ∧ ∀ a, ¬ a = 8 → B' a = B a
def CFm (d : Nat) (F F' A A' : Nat → Nat → Int32) (B B' : Nat → Nat → Int64) : Prop := (∀ c, ¬ c = 37 → ¬ c = d → ¬ c = d + 11 → F' c = F c) ∧ (∀ c, ¬ (d + 1 ≤ c ∧ c ≤ d + 14) → A' c = A c) ∧ ∀ c, ¬ c = d + 1 → B' c = B c
theorem MFm.rf {sd : Nat} {F : Nat → Int32} {A : Nat → Nat → Int32} {B : Nat → Nat → Int64} : MFm sd F F A A B B := ⟨fun _ _ _ _ _ _ => rfl, fun _ _ _ => rfl, fun _ _ => rfl⟩
theorem CFm.rf {d : Nat} {F A : Nat → Nat → Int32} {B : Nat → Nat → Int64} : CFm d F F A A B B := ⟨fun _ _ _ _ => rfl, fun _ _ => rfl, fun _ _ => rfl⟩
theorem MFm.tr {sd : Nat} {F F1 F2 : Nat → Int32} {A A1 A2 : Nat → Nat → Int32} {B B1 B2 : Nat → Nat → Int64} (h : MFm sd F F1 A A1 B B1) (g : MFm sd F1 F2 A1 A2 B1 B2) : MFm sd F F2 A A2 B B2 := ⟨fun k q1 q2 q3 q4 q5 => (g.1 k q1 q2 q3 q4 q5).trans (h.1 k q1 q2 q3 q4 q5), fun a j q => (g.2.1 a j q).trans (h.2.1 a j q), fun a q => (g.2.2 a q).trans (h.2.2 a q)⟩
theorem CFm.tr {d : Nat} {F F1 F2 A A1 A2 : Nat → Nat → Int32} {B B1 B2 : Nat → Nat → Int64} (h : CFm d F F1 A A1 B B1) (g : CFm d F1 F2 A1 A2 B1 B2) : CFm d F F2 A A2 B B2 := ⟨fun k q1 q2 q3 => (g.1 k q1 q2 q3).trans (h.1 k q1 q2 q3), fun a q => (g.2.1 a q).trans (h.2.1 a q), fun a q => (g.2.2 a q).trans (h.2.2 a q)⟩
theorem TkR.cm {Ac : Nat → Nat → Int32} {Bc : Nat → Nat → Int64} {A : Nat → Nat → Int32} {B : Nat → Nat → Int64} {M : Nat} {K V : Nat → Nat} {NM : Nat → List Nat} {PL : Nat → Nat} (h : TkR Ac Bc A B M K V NM PL) : CTk Ac Bc M K V PL ∧ MTk A M K V PL := ⟨fun j hj => ⟨(h.2.1 j hj).1.1, (h.2.1 j hj).1.2, fun q => ((h.2.1 j hj).2.2.2.2.1 q).1⟩, fun j hj => ⟨(h.2.1 j hj).2.1.1, (h.2.1 j hj).2.1.2, fun q => ((h.2.1 j hj).2.2.2.2.1 q).2.1⟩⟩
theorem TkR.fm {d sd : Nat} {Fc Fc' Ac Ac' : Nat → Nat → Int32} {Bc Bc' : Nat → Nat → Int64} {F F' : Nat → Int32} {A A' : Nat → Nat → Int32} {B B' : Nat → Nat → Int64} {M : Nat} {K V : Nat → Nat} {NM : Nat → List Nat} {PL : Nat → Nat} (h : TkR Ac Bc A B M K V NM PL) (hd : d = 7 ∨ d = 22) (hc : CFm d Fc Fc' Ac Ac' Bc Bc') (hm : MFm sd F F' A A' B B') : TkR Ac' Bc' A' B' M K V NM PL := by
  have m : ∀ a, a ≤ 8 → A' a = A a := fun a ha => funext fun j => hm.2.1 a j (by unfold SReg; omega)
  unfold TkR at *
  rw [hc.2.1 4 (by omega), hc.2.1 5 (by omega), hc.2.2 6 (by omega), m 3 (by decide), m 4 (by decide), m 5 (by decide), hm.2.2 6 (by decide)]
  exact h
theorem TkR.lt {Ac : Nat → Nat → Int32} {Bc : Nat → Nat → Int64} {A : Nat → Nat → Int32} {B : Nat → Nat → Int64} {M : Nat} {K V : Nat → Nat} {NM : Nat → List Nat} {PL : Nat → Nat} (h : TkR Ac Bc A B M K V NM PL) : ∀ j i, i < j → j ≤ M → PL i < PL j := by
  intro j
  induction j with
  | zero => intro i hi; omega
  | succ j ih =>
    intro i hi hj
    have q := h.2.2.2.2 j (by omega)
    by_cases e : i = j
    · rw [e]; exact q
    · exact Nat.lt_trans (ih i (by omega) (by omega)) q
/-- how far both are: the slip sl at sp, nb books and nf flies told, nc books in the class's draft, the codes and branches -/
def RdP (d sd : Nat) (PL : Nat → Nat) (Fc : Nat → Nat → Int32) (Bc : Nat → Nat → Int64) (F : Nat → Int32) (A : Nat → Nat → Int32) (B : Nat → Nat → Int64) (t sl sp nb nf nc cc cm br : Nat) (g : Nat → List Nat) : Prop :=
  (F 12 = 0 ∧ F 19 = nI sd ∧ sd ≤ 1) ∧
  (sl ≤ 5 ∧ Fc 37 5 = nI sl ∧ F 15 = nI sl ∧ (¬ sl = 0 → Fc 37 6 = nI sp ∧ F 16 = nI sp ∧ sp < PL t) ∧ (sl = 0 → Fc 37 6 = -1)) ∧
  (nb ≤ 6 ∧ Fc 37 7 = nI nb ∧ A 9 sd = nI nb ∧ F 20 = nI nb ∧ ∀ i, i < nb → B 8 i = jN (cN 27 (g i)) ∧ Nam (g i)) ∧
  (nf ≤ 6 ∧ Fc 37 8 = nI nf ∧ A 13 sd = nI nf) ∧
  (nc ≤ nb ∧ Fc d 0 = nI nc ∧ ∀ i, i < nc → Bc (d + 1) i = jN (cN 32 (g i))) ∧
  (Fc d 5 = nI cc ∧ cc ≤ t) ∧ (F 39 = nI cm ∧ 420 * sd ≤ cm ∧ cm ≤ 420 * sd + t) ∧ (F 33 = nI br ∧ 130 * sd ≤ br ∧ 4 * br ≤ 520 * sd + t) ∧
  (∃ q, q ≤ nf ∧ Fc d 10 = nI q) ∧ ∃ q, q ≤ 6 ∧ Fc (d + 11) 0 = nI q
abbrev Bran : Type := List (List Op × List Op × List Op) × List Op
/-- the text told so far, while there is no slip -/
def RdT (d sd : Nat) (Fc Ac : Nat → Nat → Int32) (A : Nat → Nat → Int32) (nb nf nc cc cm br : Nat) (T : TD) (lw : Nat → Option Bran) (P : AP) : Prop :=
  (nc = nb ∧ tNb T = nb ∧ tNf T = nf ∧ GoodT T ∧ ∀ b, tLw T b = (lw b).map fun x => lawF x.1 x.2) ∧
  (∀ b, b < nb → (Ac (d + 2) b = iI (tLg T b) ∧ A 10 (6 * sd + b) = iI (tLg T b)) ∧ (Ac (d + 3) b = iI (tWt T b) ∧ A 11 (6 * sd + b) = iI (tWt T b))) ∧
  (Fc d 9 = iI (tTb T) ∧ A 12 sd = iI (tTb T)) ∧
  (Fc d 10 = nI nf ∧ (∀ f, f < nf → Ac (d + 8) f = nI (tFb T f) ∧ A 14 (6 * sd + f) = iI (tFw T f) ∧ A 15 (6 * sd + f) = nI (tFb T f) ∧ A 16 (6 * sd + f) = iI (tFa T f)) ∧ ∀ b, b < nb → Ac (d + 9) b = iI (flyL T b nf) ∧ Ac (d + 10) b = iI (flyT T b nf)) ∧
  (CPile Fc Ac (d + 11) P ∧ MPile A 17 (20 * sd) P ∧ GoodP nb P) ∧
  (∀ b, b < 6 → nb ≤ b → A 18 (6 * sd + b) = A 19 (6 * sd + b)) ∧
  ∀ b, b < nb → match lw b with
    | none => Ac (d + 4) b = -1 ∧ A 18 (6 * sd + b) = A 19 (6 * sd + b)
    | some x => OkB x.1 x.2 ∧ (∃ st, Ac (d + 4) b = nI st ∧ LayC Ac d x.1 x.2 st ∧ st + szC x.1 x.2 ≤ cc) ∧ ∃ b0 c0, LayM A x.1 x.2 b0 c0 ∧ (130 * sd ≤ b0 ∧ b0 + x.1.length + 1 ≤ br) ∧ (420 * sd ≤ c0 ∧ c0 + szL x.1 x.2 ≤ cm) ∧ A 18 (6 * sd + b) = nI b0 ∧ A 19 (6 * sd + b) = nI (b0 + x.1.length + 1)
def Rd (d sd M : Nat) (K V : Nat → Nat) (NM : Nat → List Nat) (PL : Nat → Nat) (Fc Ac : Nat → Nat → Int32) (Bc : Nat → Nat → Int64) (F : Nat → Int32) (A : Nat → Nat → Int32) (B : Nat → Nat → Int64) (t : Nat) : Prop := (t ≤ M ∧ TkR Ac Bc A B M K V NM PL ∧ CPo Fc PL 0 t ∧ MPo F PL 0 t) ∧ ∃ sl sp nb nf nc cc cm br g, RdP d sd PL Fc Bc F A B t sl sp nb nf nc cc cm br g ∧ (sl = 0 → ∃ T lw P, RdT d sd Fc Ac A nb nf nc cc cm br T lw P)
/-- a tell, in both -/
def Tells (d sd M : Nat) (K V : Nat → Nat) (NM : Nat → List Nat) (PL : Nat → Nat) (r : Nat → Nat) (fc : Sto → Option (Unit × Sto)) (fm : Sto → Option (Unit × Sto)) (Fc Ac : Nat → Nat → Int32) (Bc : Nat → Nat → Int64) (F : Nat → Int32) (A : Nat → Nat → Int32) (B : Nat → Nat → Int64) (t : Nat) : Prop := ∃ Fc' Ac' Bc' F' A' B' fa t', fc (mkC Fc Ac Bc r) = some ((), mkC Fc' Ac' Bc' r) ∧ fm (mkM F A B) = some ((), mkM F' A' B') ∧ CFm d Fc Fc' Ac Ac' Bc Bc' ∧ MFm sd F F' A A' B B' ∧ (fa = 0 → t < t' ∧ Rd d sd M K V NM PL Fc' Ac' Bc' F' A' B' t') ∧ (¬ fa = 0 → CPo Fc' PL fa t' ∧ MPo F' PL fa t')
