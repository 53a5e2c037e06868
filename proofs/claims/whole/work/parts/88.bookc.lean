/-! ===== a book is told: the class ===== -/
section B88
variable {d M : Nat} {K V : Nat → Nat} {NM : Nat → List Nat} {PL : Nat → Nat} {r : Nat → Nat}
theorem c_addBook {F A : Nat → Nat → Int32} {B : Nat → Nat → Int64} {nc : Nat} (hd : d = 7 ∨ d = 22) (h0 : F d 0 = nI nc) (hn : nc < 6) (v : Int64) (x y : Int32) : ∃ A', fX10_addBook d v x y (mkC F A B r) = some ((), mkC (va_up F d (upd (F d) 0 (nI (nc + 1)))) A' (va_up B (d + 1) (vp_updL (B (d + 1)) nc v)) r) ∧ (A' (d + 2) = upd (A (d + 2)) nc x ∧ A' (d + 3) = upd (A (d + 3)) nc y ∧ A' (d + 4) = upd (A (d + 4)) nc (-1) ∧ A' (d + 9) = upd (A (d + 9)) nc 0 ∧ A' (d + 10) = upd (A (d + 10)) nc 0) ∧ ∀ c, ¬ c = d + 2 → ¬ c = d + 3 → ¬ c = d + 4 → ¬ c = d + 9 → ¬ c = d + 10 → A' c = A c := by
  have kd : c_kd d = 10 := by rcases hd with h | h <;> subst h <;> rfl
  have kd1 : c_kd (d + 1) = 34 := by rcases hd with h | h <;> subst h <;> rfl
  have kd2 : c_kd (d + 2) = 35 := by rcases hd with h | h <;> subst h <;> rfl
  have kd3 : c_kd (d + 3) = 35 := by rcases hd with h | h <;> subst h <;> rfl
  have kd4 : c_kd (d + 4) = 35 := by rcases hd with h | h <;> subst h <;> rfl
  have kd9 : c_kd (d + 9) = 35 := by rcases hd with h | h <;> subst h <;> rfl
  have kd10 : c_kd (d + 10) = 35 := by rcases hd with h | h <;> subst h <;> rfl
  have n6 : ¬ (6 : Int32) ≤ nI nc := fun q => by
    have := (nI_leI (a := 6) (by decide) (by omega)).1 q
    omega
  unfold fX10_addBook
  simp -implicitDefEqProofs (disch := first | assumption | omega | decide | exact And.intro (by omega) (by omega)) only [cck_0, cr0_0, cr0_1, cr0_2, cr0_3, cg0_4, cp0_4, cg0_5, cp0_5, cck_1, cg1_0, cp1_0, cr1_1, cr1_2, cr1_3, cg1_4, cp1_4, cg1_5, cp1_5, cr1_6, cr1_7, cck_2, cr2_0, cr2_1, cr2_2, cck_3, cr3_0, cr3_1, cg3_2, cp3_2, cg3_3, cp3_3, cg3_4, cp3_4, cg3_5, cp3_5, cg3_6, cp3_6, cg3_7, cp3_7, cg3_8, cp3_8, cck_4, cg4_0, cp4_0, cg4_1, cp4_1, cr4_2, cr4_3, cr4_4, cr4_5, cck_5, cg5_0, cp5_0, cr5_1, cr5_2, cr5_3, cck_6, cg6_0, cp6_0, cg6_1, cp6_1, cck_7, cg7_0, cp7_0, cg7_1, cp7_1, cr7_2, cr7_3, cr7_4, cr7_5, cr7_6, cr7_7, cr7_8, cck_8, cr8_0, cr8_1, cck_9, cr9_0, cr9_1, cr9_2, cr9_3, cg9_4, cp9_4, cck_10, cg10_0, cp10_0, cr10_1, cr10_2, cr10_3, cr10_4, cg10_5, cp10_5, cr10_6, cr10_7, cr10_8, cg10_9, cp10_9, cg10_10, cp10_10, cr10_11, cr10_12, cr10_13, cr10_14, cck_11, cr11_0, cg11_1, cp11_1, cr11_2, cr11_3, cr11_4, cr11_5, cr11_6, cr11_7, cr11_8, cr11_9, cr11_10, cr11_11, cr11_12, cr11_13, cr11_14, ca_30, cs_30, ca_31, cs_31, ca_32, cs_32, ca_33, cs_33, ca_34, cs_34, ca_35, cs_35, ca_36, cs_36, ca_37, cs_37, ca_38, cs_38, ca_39, cs_39, ca_40, cs_40, ca_41, cs_41, ca_42, cs_42, car_20, car_21, car_22, cq11_3, cq11_4, cq3_1, cq0_0, cq0_1, if_true, if_false, Option.bind_some, cb_e, lt_e, nI_1, hs_nar2, nh4, upd_at, vau_at, ca_42_0, cs_42_0, h0, if_neg n6, vau_ne]
  exact ⟨_, rfl, ⟨by rw [vau_ne (by omega), vau_ne (by omega), vau_ne (by omega), vau_ne (by omega), vau_at], by rw [vau_ne (by omega), vau_ne (by omega), vau_ne (by omega), vau_at], by rw [vau_ne (by omega), vau_ne (by omega), vau_at], by rw [vau_ne (by omega), vau_at], vau_at _ _ _⟩, fun c q1 q2 q3 q4 q5 => by rw [vau_ne q5, vau_ne q4, vau_ne q3, vau_ne q2, vau_ne q1]⟩
/-- the slips of a book told: its name twice, its ints -/
def slB (V PL : Nat → Nat) (w : Nat × Nat) (dup : Bool) (j : Nat) : Nat × Nat := slp (slp (slp w dup 3 (PL j)) (decide (V (j + 1) < 1 ∨ 99 < V (j + 1))) 5 (PL (j + 1))) (decide (V (j + 2) < 1 ∨ 20 < V (j + 2))) 5 (PL (j + 2))
theorem c_slN {F A : Nat → Nat → Int32} {B : Nat → Nat → Int64} {w : Nat × Nat} {k j : Nat} (hw : SlC F w) (hk : k ≤ 5 ∧ ¬ k = 0) (hj : j < 402) (h5 : A 5 j = nI (PL j)) : ∃ F', fX3_slipAt 37 (nI k) (nI j) (mkC F A B r) = some ((), mkC F' A B r) ∧ SlC F' (slp w true k (PL j)) ∧ (∀ c, ¬ c = 37 → F' c = F c) ∧ ∀ x, ¬ x = 5 → ¬ x = 6 → F' 37 x = F 37 x := by
  refine ⟨_, c_slip hw.2.1 hw.1 hj, ?_, (slF_ne _ _ _).1, (slF_ne _ _ _).2⟩
  unfold slp slF
  by_cases c : w.1 = 0
  · rw [if_pos c, if_pos (show w.1 = 0 ∧ true = true from ⟨c, rfl⟩)]
    exact ⟨hk.1, by rw [vau_at, upd_ne (by decide), upd_at], fun _ => by rw [vau_at, upd_at]; exact h5, fun q => absurd q hk.2⟩
  · rw [if_neg c, if_neg (fun q => c q.1)]
    exact hw
/-- behind the tokens of a book: what is looked at and kept -/
theorem c_book93 {F A : Nat → Nat → Int32} {B : Nat → Nat → Int64} {w : Nat × Nat} {j nc : Nat} (hd : d = 7 ∨ d = 22) (hr : r 2 = d) (hw : SlC F w) (hj : j + 2 < 402) (h51 : A 5 (j + 1) = nI (PL (j + 1))) (h52 : A 5 (j + 2) = nI (PL (j + 2))) (v1 : B 6 (j + 1) = jN (V (j + 1))) (v2 : B 6 (j + 2) = jN (V (j + 2))) (u1 : V (j + 1) ≤ 9999) (u2 : V (j + 2) ≤ 9999) (h0 : F d 0 = nI nc) (hn : nc < 6) : ∃ F' A' B', fX3_tellBook_b93 37 (nI j) (nI (j + 1)) (nI (j + 2)) (mkC F A B r) = some ((), mkC F' A' B' r) ∧ SlC F' (slp (slp w (decide (V (j + 1) < 1 ∨ 99 < V (j + 1))) 5 (PL (j + 1))) (decide (V (j + 2) < 1 ∨ 20 < V (j + 2))) 5 (PL (j + 2))) ∧ (∀ x, ¬ x = 5 → ¬ x = 6 → F' 37 x = F 37 x) ∧ (∀ c, ¬ c = 37 → ¬ c = d → F' c = F c) ∧ (∀ x, ¬ x = 0 → F' d x = F d x) ∧ (¬ (slp (slp w (decide (V (j + 1) < 1 ∨ 99 < V (j + 1))) 5 (PL (j + 1))) (decide (V (j + 2) < 1 ∨ 20 < V (j + 2))) 5 (PL (j + 2))).1 = 0 → F' d = F d ∧ A' = A ∧ B' = B) ∧ ((slp (slp w (decide (V (j + 1) < 1 ∨ 99 < V (j + 1))) 5 (PL (j + 1))) (decide (V (j + 2) < 1 ∨ 20 < V (j + 2))) 5 (PL (j + 2))).1 = 0 → F' d 0 = nI (nc + 1) ∧ B' = va_up B (d + 1) (vp_updL (B (d + 1)) nc (B 6 j)) ∧ (A' (d + 2) = upd (A (d + 2)) nc (nI (V (j + 1))) ∧ A' (d + 3) = upd (A (d + 3)) nc (nI (V (j + 2))) ∧ A' (d + 4) = upd (A (d + 4)) nc (-1) ∧ A' (d + 9) = upd (A (d + 9)) nc 0 ∧ A' (d + 10) = upd (A (d + 10)) nc 0) ∧ ∀ c, ¬ c = d + 2 → ¬ c = d + 3 → ¬ c = d + 4 → ¬ c = d + 9 → ¬ c = d + 10 → A' c = A c) := by
  obtain ⟨F1, a1, a2, a3, a4⟩ := c_chk (r := r) (lo := 1) (hi := 99) hw (j := j + 1) (by omega) h51 v1 u1 (by decide) (by decide)
  obtain ⟨F2, b1, b2, b3, b4⟩ := c_chk (r := r) (lo := 1) (hi := 20) a2 (j := j + 2) (by omega) h52 v2 u2 (by decide) (by decide)
  have a1' : fX3_checkInt 37 (nI (j + 1)) 1 99 (mkC F A B r) = some ((), mkC F1 A B r) := a1
  have b1' : fX3_checkInt 37 (nI (j + 2)) 1 20 (mkC F1 A B r) = some ((), mkC F2 A B r) := b1
  generalize hw3 : slp (slp w (decide (V (j + 1) < 1 ∨ 99 < V (j + 1))) 5 (PL (j + 1))) (decide (V (j + 2) < 1 ∨ 20 < V (j + 2))) 5 (PL (j + 2)) = w3 at *
  have d37 : ¬ d = 37 := by omega
  have f37 : ∀ x, ¬ x = 5 → ¬ x = 6 → F2 37 x = F 37 x := fun x q1 q2 => (b4 x q1 q2).trans (a4 x q1 q2)
  have fo : ∀ c, ¬ c = 37 → F2 c = F c := fun c hc => (b3 c hc).trans (a3 c hc)
  have f5 := b2.2.1
  have hr2 : gR (mkC F2 A B r) 3 37 1 = some d := by rw [cr3_1 rfl, hr]
  have hj4 : j < 402 := by omega
  by_cases c : w3.1 = 0
  · rw [c] at f5
    have f5' : F2 37 5 = 0 := f5
    have i1 := c_intAt (F := F2) (A := A) (r := r) (j := j + 1) (by omega) v1 u1
    have i2 := c_intAt (F := F2) (A := A) (r := r) (j := j + 2) (by omega) v2 u2
    obtain ⟨A', z1, z2, z3⟩ := c_addBook (A := A) (B := B) (r := r) (F := F2) (nc := nc) hd (by rw [fo d d37]; exact h0) hn (B 6 j) (nI (V (j + 1))) (nI (V (j + 2)))
    refine ⟨va_up F2 d (upd (F2 d) 0 (nI (nc + 1))), A', va_up B (d + 1) (vp_updL (B (d + 1)) nc (B 6 j)), ?_, ⟨b2.1, by rw [vau_ne (fun q => d37 q.symm)]; exact b2.2.1, fun q => by rw [vau_ne (fun q => d37 q.symm)]; exact b2.2.2.1 q, fun q => by rw [vau_ne (fun q => d37 q.symm)]; exact b2.2.2.2 q⟩, fun x q1 q2 => by rw [vau_ne (fun q => d37 q.symm)]; exact f37 x q1 q2, fun c q1 q2 => by rw [vau_ne q2]; exact fo c q1, fun x hx => by rw [vau_at, upd_ne hx, fo d d37], fun q => absurd c q, fun _ => ⟨by rw [vau_at, upd_at], rfl, z2, z3⟩⟩
    unfold fX3_tellBook_b93
    simp -implicitDefEqProofs (disch := first | assumption | omega | decide | exact And.intro (by omega) (by omega)) only [cck_0, cr0_0, cr0_1, cr0_2, cr0_3, cg0_4, cp0_4, cg0_5, cp0_5, cck_1, cg1_0, cp1_0, cr1_1, cr1_2, cr1_3, cg1_4, cp1_4, cg1_5, cp1_5, cr1_6, cr1_7, cck_2, cr2_0, cr2_1, cr2_2, cck_3, cr3_0, cr3_1, cg3_2, cp3_2, cg3_3, cp3_3, cg3_4, cp3_4, cg3_5, cp3_5, cg3_6, cp3_6, cg3_7, cp3_7, cg3_8, cp3_8, cck_4, cg4_0, cp4_0, cg4_1, cp4_1, cr4_2, cr4_3, cr4_4, cr4_5, cck_5, cg5_0, cp5_0, cr5_1, cr5_2, cr5_3, cck_6, cg6_0, cp6_0, cg6_1, cp6_1, cck_7, cg7_0, cp7_0, cg7_1, cp7_1, cr7_2, cr7_3, cr7_4, cr7_5, cr7_6, cr7_7, cr7_8, cck_8, cr8_0, cr8_1, cck_9, cr9_0, cr9_1, cr9_2, cr9_3, cg9_4, cp9_4, cck_10, cg10_0, cp10_0, cr10_1, cr10_2, cr10_3, cr10_4, cg10_5, cp10_5, cr10_6, cr10_7, cr10_8, cg10_9, cp10_9, cg10_10, cp10_10, cr10_11, cr10_12, cr10_13, cr10_14, cck_11, cr11_0, cg11_1, cp11_1, cr11_2, cr11_3, cr11_4, cr11_5, cr11_6, cr11_7, cr11_8, cr11_9, cr11_10, cr11_11, cr11_12, cr11_13, cr11_14, ca_30, cs_30, ca_31, cs_31, ca_32, cs_32, ca_33, cs_33, ca_34, cs_34, ca_35, cs_35, ca_36, cs_36, ca_37, cs_37, ca_38, cs_38, ca_39, cs_39, ca_40, cs_40, ca_41, cs_41, ca_42, cs_42, car_20, car_21, car_22, cq11_3, cq11_4, cq3_1, cq0_0, cq0_1, if_true, if_false, Option.bind_some, cb_e, lt_e, nI_1, hs_nar2, nh4, upd_at, vau_at, ca_42_0, cs_42_0, a1', b1', f5', hr2, i1, i2, z1]
  · have hz : ¬ nI w3.1 = 0 := nI_ne0 (by omega) (by have := b2.1; omega)
    refine ⟨F2, A, B, ?_, b2, f37, fun c q1 _ => fo c q1, fun x _ => by rw [fo d d37], fun _ => ⟨fo d d37, rfl, rfl⟩, fun q => absurd q c⟩
    unfold fX3_tellBook_b93
    simp -implicitDefEqProofs (disch := first | assumption | omega | decide | exact And.intro (by omega) (by omega)) only [cck_0, cr0_0, cr0_1, cr0_2, cr0_3, cg0_4, cp0_4, cg0_5, cp0_5, cck_1, cg1_0, cp1_0, cr1_1, cr1_2, cr1_3, cg1_4, cp1_4, cg1_5, cp1_5, cr1_6, cr1_7, cck_2, cr2_0, cr2_1, cr2_2, cck_3, cr3_0, cr3_1, cg3_2, cp3_2, cg3_3, cp3_3, cg3_4, cp3_4, cg3_5, cp3_5, cg3_6, cp3_6, cg3_7, cp3_7, cg3_8, cp3_8, cck_4, cg4_0, cp4_0, cg4_1, cp4_1, cr4_2, cr4_3, cr4_4, cr4_5, cck_5, cg5_0, cp5_0, cr5_1, cr5_2, cr5_3, cck_6, cg6_0, cp6_0, cg6_1, cp6_1, cck_7, cg7_0, cp7_0, cg7_1, cp7_1, cr7_2, cr7_3, cr7_4, cr7_5, cr7_6, cr7_7, cr7_8, cck_8, cr8_0, cr8_1, cck_9, cr9_0, cr9_1, cr9_2, cr9_3, cg9_4, cp9_4, cck_10, cg10_0, cp10_0, cr10_1, cr10_2, cr10_3, cr10_4, cg10_5, cp10_5, cr10_6, cr10_7, cr10_8, cg10_9, cp10_9, cg10_10, cp10_10, cr10_11, cr10_12, cr10_13, cr10_14, cck_11, cr11_0, cg11_1, cp11_1, cr11_2, cr11_3, cr11_4, cr11_5, cr11_6, cr11_7, cr11_8, cr11_9, cr11_10, cr11_11, cr11_12, cr11_13, cr11_14, ca_30, cs_30, ca_31, cs_31, ca_32, cs_32, ca_33, cs_33, ca_34, cs_34, ca_35, cs_35, ca_36, cs_36, ca_37, cs_37, ca_38, cs_38, ca_39, cs_39, ca_40, cs_40, ca_41, cs_41, ca_42, cs_42, car_20, car_21, car_22, cq11_3, cq11_4, cq3_1, cq0_0, cq0_1, if_true, if_false, Option.bind_some, cb_e, lt_e, nI_1, hs_nar2, nh4, upd_at, vau_at, ca_42_0, cs_42_0, a1', b1', f5, if_neg hz]
end B88
