/-! ===== the model's laws ===== -/
/-- where the model keeps a law: its branches from b on, their codes from c on -/
def LayM (A : Nat → Nat → Int32) : List (List Op × List Op × List Op) → List Op → Nat → Nat → Prop
  | [], la, b, c => (A 20 b = 0 ∧ A 23 b = nI c ∧ A 24 b = nI (c + la.length)) ∧ SegM A c la
  | x :: Br, la, b, c => (A 20 b = 1 ∧ A 21 b = nI c ∧ A 22 b = nI (c + x.1.length) ∧ A 23 b = nI (c + x.1.length + x.2.1.length) ∧ A 24 b = nI (c + x.1.length + x.2.1.length + x.2.2.length)) ∧ (SegM A c x.1 ∧ SegM A (c + x.1.length) x.2.1 ∧ SegM A (c + x.1.length + x.2.1.length) x.2.2) ∧ LayM A Br la (b + 1) (c + x.1.length + x.2.1.length + x.2.2.length)
def szL : List (List Op × List Op × List Op) → List Op → Nat
  | [], la => la.length
  | x :: Br, la => x.1.length + x.2.1.length + x.2.2.length + szL Br la
def OkB (Br : List (List Op × List Op × List Op)) (la : List Op) : Prop := (∀ x ∈ Br, GoodL 15 x.1 ∧ GoodL 15 x.2.1 ∧ GoodL 15 x.2.2) ∧ GoodL 15 la
theorem LayM.eq {A A' : Nat → Nat → Int32} {la : List Op} : ∀ {Br : List (List Op × List Op × List Op)} {b c : Nat}, LayM A Br la b c → (∀ j, b ≤ j → j ≤ b + Br.length → A' 20 j = A 20 j ∧ A' 21 j = A 21 j ∧ A' 22 j = A 22 j ∧ A' 23 j = A 23 j ∧ A' 24 j = A 24 j) → (∀ j, c ≤ j → j < c + szL Br la → A' 25 j = A 25 j ∧ A' 26 j = A 26 j) → LayM A' Br la b c
  | [], b, c, h, e1, e2 => by
    obtain ⟨q1, q2, q3, q4, q5⟩ := e1 b (by omega) (by omega)
    exact ⟨⟨by rw [q1]; exact h.1.1, by rw [q4]; exact h.1.2.1, by rw [q5]; exact h.1.2.2⟩, h.2.eq e2⟩
  | x :: Br, b, c, h, e1, e2 => by
    obtain ⟨q1, q2, q3, q4, q5⟩ := e1 b (by omega) (by omega)
    obtain ⟨⟨a1, a2, a3, a4, a5⟩, ⟨b1, b3, b4⟩, h2⟩ := h
    rw [szL] at e2
    rw [List.length_cons] at e1
    exact ⟨⟨by rw [q1]; exact a1, by rw [q2]; exact a2, by rw [q3]; exact a3, by rw [q4]; exact a4, by rw [q5]; exact a5⟩, ⟨b1.eq (fun j z1 z2 => e2 j (by omega) (by omega)), b3.eq (fun j z1 z2 => e2 j (by omega) (by omega)), b4.eq (fun j z1 z2 => e2 j (by omega) (by omega))⟩, h2.eq (fun j z1 z2 => e1 j (by omega) (by omega)) (fun j z1 z2 => e2 j (by omega) (by omega))⟩
theorem m_termOf {F : Nat → Int32} {A : Nat → Nat → Int32} {B : Nat → Nat → Int64} {L : List Op} {c : Nat} (hG : GoodL 15 L) (hc : c + L.length ≤ 840) (hS : SegM A c L) : ∃ g, fX12_termOf 0 (nI c) (nI (c + L.length)) (mkM F A B) = some ((valR (v5 (A 28)) L).getD 0, mkM (if valR (v5 (A 28)) L = none then upd F 46 1 else F) (va_up A 29 g) B) := by
  obtain ⟨i1, i2⟩ := m_termOf_go (F := F) (B := B) L c FU [] A hG.1 (hG.2 0 399 (by omega)) (by decide) hc hS trivial (by unfold FU; omega)
  rcases val_cases (v5 (A 28)) hG [] with ⟨h1, h2⟩ | ⟨x, h1, h2⟩
  · obtain ⟨g, z⟩ := i1 h2
    refine ⟨g, ?_⟩
    rw [h1, if_pos rfl]
    unfold fX12_termOf
    simp -implicitDefEqProofs (disch := first | assumption | omega | decide | exact And.intro (by omega) (by omega)) only [mck, mg_0, mp_0, mr_1, mg_2, mp_2, mr_3, mg_4, mp_4, mr_5, mr_6, mr_7, mr_8, mr_9, mg_10, mp_10, mg_11, mp_11, mg_12, mp_12, mg_13, mp_13, mg_14, mp_14, mg_15, mp_15, mg_16, mp_16, mg_17, mp_17, mg_18, mp_18, mg_19, mp_19, mg_20, mp_20, mr_21, mr_22, mr_23, mr_24, mr_25, mr_26, mr_27, mr_28, mr_29, mr_30, mr_31, mr_32, mg_33, mp_33, mr_34, mr_35, mr_36, mr_37, mr_38, mg_39, mp_39, mr_40, mr_41, mr_42, mg_43, mp_43, mr_44, mr_45, mg_46, mp_46, mr_47, mr_48, mg_49, mp_49, mg_50, mp_50, mg_51, mp_51, mr_52, mr_53, mr_54, mg_55, mp_55, mr_56, mr_57, mg_58, mp_58, mg_59, mp_59, mg_60, mp_60, mr_61, mg_62, mp_62, mr_63, mr_64, mr_65, mr_66, mr_67, mr_68, ma_1, ms_1, ma_2, ms_2, ma_3, ms_3, ma_4, ms_4, ma_5, ms_5, ma_6, ms_6, ma_7, ms_7, ma_8, ms_8, ma_9, ms_9, ma_10, ms_10, ma_11, ms_11, ma_12, ms_12, ma_13, ms_13, ma_14, ms_14, ma_15, ms_15, ma_16, ms_16, ma_17, ms_17, ma_18, ms_18, ma_19, ms_19, ma_20, ms_20, ma_21, ms_21, ma_22, ms_22, ma_23, ms_23, ma_24, ms_24, ma_25, ms_25, ma_26, ms_26, ma_27, ms_27, ma_28, ms_28, ma_29, ms_29, ma_30, ms_30, ma_31, ms_31, ma_32, ms_32, ma_33, ms_33, ma_34, ms_34, ma_35, ms_35, ma_36, ms_36, ma_37, ms_37, ma_38, ms_38, ma_39, ms_39, ma_40, ms_40, ma_41, ms_41, ma_42, ms_42, ma_43, ms_43, if_true, if_false, Option.bind_some, cb_e, lt_e, nI_1, hs_nar2, nh4, upd_at, vau_at, ma_30_18, ms_30_18, ma_31_18, ms_31_18, ma_28_0, ms_28_0, ma_28_1, ms_28_1, ma_28_2, ms_28_2, ma_28_3, ms_28_3, ma_28_4, ms_28_4, ma_42_0, ms_42_0, ma_42_1, ms_42_1, ma_42_2, ms_42_2, ma_36_0, ms_36_0]
    exact z
  · obtain ⟨g, z⟩ := i2 x h2
    refine ⟨g, ?_⟩
    rw [h1, if_neg (fun q => (by cases q))]
    unfold fX12_termOf
    simp -implicitDefEqProofs (disch := first | assumption | omega | decide | exact And.intro (by omega) (by omega)) only [mck, mg_0, mp_0, mr_1, mg_2, mp_2, mr_3, mg_4, mp_4, mr_5, mr_6, mr_7, mr_8, mr_9, mg_10, mp_10, mg_11, mp_11, mg_12, mp_12, mg_13, mp_13, mg_14, mp_14, mg_15, mp_15, mg_16, mp_16, mg_17, mp_17, mg_18, mp_18, mg_19, mp_19, mg_20, mp_20, mr_21, mr_22, mr_23, mr_24, mr_25, mr_26, mr_27, mr_28, mr_29, mr_30, mr_31, mr_32, mg_33, mp_33, mr_34, mr_35, mr_36, mr_37, mr_38, mg_39, mp_39, mr_40, mr_41, mr_42, mg_43, mp_43, mr_44, mr_45, mg_46, mp_46, mr_47, mr_48, mg_49, mp_49, mg_50, mp_50, mg_51, mp_51, mr_52, mr_53, mr_54, mg_55, mp_55, mr_56, mr_57, mg_58, mp_58, mg_59, mp_59, mg_60, mp_60, mr_61, mg_62, mp_62, mr_63, mr_64, mr_65, mr_66, mr_67, mr_68, ma_1, ms_1, ma_2, ms_2, ma_3, ms_3, ma_4, ms_4, ma_5, ms_5, ma_6, ms_6, ma_7, ms_7, ma_8, ms_8, ma_9, ms_9, ma_10, ms_10, ma_11, ms_11, ma_12, ms_12, ma_13, ms_13, ma_14, ms_14, ma_15, ms_15, ma_16, ms_16, ma_17, ms_17, ma_18, ms_18, ma_19, ms_19, ma_20, ms_20, ma_21, ms_21, ma_22, ms_22, ma_23, ms_23, ma_24, ms_24, ma_25, ms_25, ma_26, ms_26, ma_27, ms_27, ma_28, ms_28, ma_29, ms_29, ma_30, ms_30, ma_31, ms_31, ma_32, ms_32, ma_33, ms_33, ma_34, ms_34, ma_35, ms_35, ma_36, ms_36, ma_37, ms_37, ma_38, ms_38, ma_39, ms_39, ma_40, ms_40, ma_41, ms_41, ma_42, ms_42, ma_43, ms_43, if_true, if_false, Option.bind_some, cb_e, lt_e, nI_1, hs_nar2, nh4, upd_at, vau_at, ma_30_18, ms_30_18, ma_31_18, ms_31_18, ma_28_0, ms_28_0, ma_28_1, ms_28_1, ma_28_2, ms_28_2, ma_28_3, ms_28_3, ma_28_4, ms_28_4, ma_42_0, ms_42_0, ma_42_1, ms_42_1, ma_42_2, ms_42_2, ma_36_0, ms_36_0]
    exact z
theorem m_tellsBy_go {B : Nat → Nat → Int64} {at_ e : Nat} (ha : at_ < 12) (he : e ≤ 260) {la : List Op} : ∀ (Br : List (List Op × List Op × List Op)) (b c fuel : Nat) (F : Nat → Int32) (A : Nat → Nat → Int32), OkB Br la → LayM A Br la b c → b + Br.length + 1 = e → c + szL Br la ≤ 840 → A 19 at_ = nI e → F 46 = 0 → Br.length + 1 < fuel → ∃ z g, fX12_tellsBy_b12 fuel 0 (nI at_) (nI b) (mkM F A B) = some (lawF Br la (v5 (A 28)), mkM (upd F 46 z) (va_up A 29 g) B)
  | [], b, c, fuel, F, A, hO, hLy, hb, hc, h19, h46, hfu => by
    obtain ⟨fuel, rfl⟩ : ∃ q, fuel = q + 1 := ⟨fuel - 1, by omega⟩
    rw [List.length_nil] at hb
    have hb260 : b < 260 := by omega
    obtain ⟨⟨a1, a2, a3⟩, a4⟩ := hLy
    obtain ⟨g, z⟩ := m_termOf (F := F) (B := B) hO.2 hc a4
    have hF : upd F 46 0 = F := by
      funext x
      unfold upd
      split
      · rename_i hx; rw [hx, h46]
      · rfl
    rw [fX12_tellsBy_b12]
    simp -implicitDefEqProofs (disch := first | assumption | omega | decide | exact And.intro (by omega) (by omega)) only [mck, mg_0, mp_0, mr_1, mg_2, mp_2, mr_3, mg_4, mp_4, mr_5, mr_6, mr_7, mr_8, mr_9, mg_10, mp_10, mg_11, mp_11, mg_12, mp_12, mg_13, mp_13, mg_14, mp_14, mg_15, mp_15, mg_16, mp_16, mg_17, mp_17, mg_18, mp_18, mg_19, mp_19, mg_20, mp_20, mr_21, mr_22, mr_23, mr_24, mr_25, mr_26, mr_27, mr_28, mr_29, mr_30, mr_31, mr_32, mg_33, mp_33, mr_34, mr_35, mr_36, mr_37, mr_38, mg_39, mp_39, mr_40, mr_41, mr_42, mg_43, mp_43, mr_44, mr_45, mg_46, mp_46, mr_47, mr_48, mg_49, mp_49, mg_50, mp_50, mg_51, mp_51, mr_52, mr_53, mr_54, mg_55, mp_55, mr_56, mr_57, mg_58, mp_58, mg_59, mp_59, mg_60, mp_60, mr_61, mg_62, mp_62, mr_63, mr_64, mr_65, mr_66, mr_67, mr_68, ma_1, ms_1, ma_2, ms_2, ma_3, ms_3, ma_4, ms_4, ma_5, ms_5, ma_6, ms_6, ma_7, ms_7, ma_8, ms_8, ma_9, ms_9, ma_10, ms_10, ma_11, ms_11, ma_12, ms_12, ma_13, ms_13, ma_14, ms_14, ma_15, ms_15, ma_16, ms_16, ma_17, ms_17, ma_18, ms_18, ma_19, ms_19, ma_20, ms_20, ma_21, ms_21, ma_22, ms_22, ma_23, ms_23, ma_24, ms_24, ma_25, ms_25, ma_26, ms_26, ma_27, ms_27, ma_28, ms_28, ma_29, ms_29, ma_30, ms_30, ma_31, ms_31, ma_32, ms_32, ma_33, ms_33, ma_34, ms_34, ma_35, ms_35, ma_36, ms_36, ma_37, ms_37, ma_38, ms_38, ma_39, ms_39, ma_40, ms_40, ma_41, ms_41, ma_42, ms_42, ma_43, ms_43, if_true, if_false, Option.bind_some, cb_e, lt_e, nI_1, hs_nar2, nh4, upd_at, vau_at, ma_30_18, ms_30_18, ma_31_18, ms_31_18, ma_28_0, ms_28_0, ma_28_1, ms_28_1, ma_28_2, ms_28_2, ma_28_3, ms_28_3, ma_28_4, ms_28_4, ma_42_0, ms_42_0, ma_42_1, ms_42_1, ma_42_2, ms_42_2, ma_36_0, ms_36_0, h19]
    rw [if_neg (nI_ge (by omega) (by omega))]
    simp -implicitDefEqProofs (disch := first | assumption | omega | decide | exact And.intro (by omega) (by omega)) only [mck, mg_0, mp_0, mr_1, mg_2, mp_2, mr_3, mg_4, mp_4, mr_5, mr_6, mr_7, mr_8, mr_9, mg_10, mp_10, mg_11, mp_11, mg_12, mp_12, mg_13, mp_13, mg_14, mp_14, mg_15, mp_15, mg_16, mp_16, mg_17, mp_17, mg_18, mp_18, mg_19, mp_19, mg_20, mp_20, mr_21, mr_22, mr_23, mr_24, mr_25, mr_26, mr_27, mr_28, mr_29, mr_30, mr_31, mr_32, mg_33, mp_33, mr_34, mr_35, mr_36, mr_37, mr_38, mg_39, mp_39, mr_40, mr_41, mr_42, mg_43, mp_43, mr_44, mr_45, mg_46, mp_46, mr_47, mr_48, mg_49, mp_49, mg_50, mp_50, mg_51, mp_51, mr_52, mr_53, mr_54, mg_55, mp_55, mr_56, mr_57, mg_58, mp_58, mg_59, mp_59, mg_60, mp_60, mr_61, mg_62, mp_62, mr_63, mr_64, mr_65, mr_66, mr_67, mr_68, ma_1, ms_1, ma_2, ms_2, ma_3, ms_3, ma_4, ms_4, ma_5, ms_5, ma_6, ms_6, ma_7, ms_7, ma_8, ms_8, ma_9, ms_9, ma_10, ms_10, ma_11, ms_11, ma_12, ms_12, ma_13, ms_13, ma_14, ms_14, ma_15, ms_15, ma_16, ms_16, ma_17, ms_17, ma_18, ms_18, ma_19, ms_19, ma_20, ms_20, ma_21, ms_21, ma_22, ms_22, ma_23, ms_23, ma_24, ms_24, ma_25, ms_25, ma_26, ms_26, ma_27, ms_27, ma_28, ms_28, ma_29, ms_29, ma_30, ms_30, ma_31, ms_31, ma_32, ms_32, ma_33, ms_33, ma_34, ms_34, ma_35, ms_35, ma_36, ms_36, ma_37, ms_37, ma_38, ms_38, ma_39, ms_39, ma_40, ms_40, ma_41, ms_41, ma_42, ms_42, ma_43, ms_43, if_true, if_false, Option.bind_some, cb_e, lt_e, nI_1, hs_nar2, nh4, upd_at, vau_at, ma_30_18, ms_30_18, ma_31_18, ms_31_18, ma_28_0, ms_28_0, ma_28_1, ms_28_1, ma_28_2, ms_28_2, ma_28_3, ms_28_3, ma_28_4, ms_28_4, ma_42_0, ms_42_0, ma_42_1, ms_42_1, ma_42_2, ms_42_2, ma_36_0, ms_36_0, a1]
    unfold fX12_tellsBy_b84
    simp -implicitDefEqProofs (disch := first | assumption | omega | decide | exact And.intro (by omega) (by omega)) only [mck, mg_0, mp_0, mr_1, mg_2, mp_2, mr_3, mg_4, mp_4, mr_5, mr_6, mr_7, mr_8, mr_9, mg_10, mp_10, mg_11, mp_11, mg_12, mp_12, mg_13, mp_13, mg_14, mp_14, mg_15, mp_15, mg_16, mp_16, mg_17, mp_17, mg_18, mp_18, mg_19, mp_19, mg_20, mp_20, mr_21, mr_22, mr_23, mr_24, mr_25, mr_26, mr_27, mr_28, mr_29, mr_30, mr_31, mr_32, mg_33, mp_33, mr_34, mr_35, mr_36, mr_37, mr_38, mg_39, mp_39, mr_40, mr_41, mr_42, mg_43, mp_43, mr_44, mr_45, mg_46, mp_46, mr_47, mr_48, mg_49, mp_49, mg_50, mp_50, mg_51, mp_51, mr_52, mr_53, mr_54, mg_55, mp_55, mr_56, mr_57, mg_58, mp_58, mg_59, mp_59, mg_60, mp_60, mr_61, mg_62, mp_62, mr_63, mr_64, mr_65, mr_66, mr_67, mr_68, ma_1, ms_1, ma_2, ms_2, ma_3, ms_3, ma_4, ms_4, ma_5, ms_5, ma_6, ms_6, ma_7, ms_7, ma_8, ms_8, ma_9, ms_9, ma_10, ms_10, ma_11, ms_11, ma_12, ms_12, ma_13, ms_13, ma_14, ms_14, ma_15, ms_15, ma_16, ms_16, ma_17, ms_17, ma_18, ms_18, ma_19, ms_19, ma_20, ms_20, ma_21, ms_21, ma_22, ms_22, ma_23, ms_23, ma_24, ms_24, ma_25, ms_25, ma_26, ms_26, ma_27, ms_27, ma_28, ms_28, ma_29, ms_29, ma_30, ms_30, ma_31, ms_31, ma_32, ms_32, ma_33, ms_33, ma_34, ms_34, ma_35, ms_35, ma_36, ms_36, ma_37, ms_37, ma_38, ms_38, ma_39, ms_39, ma_40, ms_40, ma_41, ms_41, ma_42, ms_42, ma_43, ms_43, if_true, if_false, Option.bind_some, cb_e, lt_e, nI_1, hs_nar2, nh4, upd_at, vau_at, ma_30_18, ms_30_18, ma_31_18, ms_31_18, ma_28_0, ms_28_0, ma_28_1, ms_28_1, ma_28_2, ms_28_2, ma_28_3, ms_28_3, ma_28_4, ms_28_4, ma_42_0, ms_42_0, ma_42_1, ms_42_1, ma_42_2, ms_42_2, ma_36_0, ms_36_0, a2, a3, z]
    cases hv : valR (v5 (A 28)) la with
    | none =>
      rw [if_pos rfl, upd_at, if_neg (by decide), lawF, hv]
      exact ⟨1, g, rfl⟩
    | some x =>
      rw [if_neg (show ¬ (some x : Option Int32) = none from fun q => (by cases q)), h46, if_pos rfl, lawF, hv]
      exact ⟨0, g, by rw [hF]⟩
  | x :: Br, b, c, fuel, F, A, hO, hLy, hb, hc, h19, h46, hfu => by
    obtain ⟨fuel, rfl⟩ : ∃ q, fuel = q + 1 := ⟨fuel - 1, by omega⟩
    rw [List.length_cons] at hb hfu
    rw [szL] at hc
    have hb260 : b < 260 := by omega
    obtain ⟨⟨a1, a2, a3, a4, a5⟩, ⟨b1, b3, b4⟩, h2⟩ := hLy
    obtain ⟨o1, o2, o3⟩ := hO.1 x (List.mem_cons_self ..)
    have hO' : OkB Br la := ⟨fun y hy => hO.1 y (List.mem_cons_of_mem _ hy), hO.2⟩
    have hF : upd F 46 0 = F := by
      funext y
      unfold upd
      split
      · rename_i hx; rw [hx, h46]
      · rfl
    obtain ⟨g1, z1⟩ := m_termOf (F := F) (B := B) o1 (by omega) b1
    have seg2 : SegM (va_up A 29 g1) (c + x.1.length) x.2.1 := b3.eq (fun j _ _ => ⟨by rw [vau_ne (by decide)], by rw [vau_ne (by decide)]⟩)
    obtain ⟨g2, z2⟩ := m_termOf (F := if valR (v5 (A 28)) x.1 = none then upd F 46 1 else F) (A := va_up A 29 g1) (B := B) o2 (by omega) seg2
    rw [vau_ne (by decide), vau_vau] at z2
    have a3' : va_up A 29 g1 22 b = nI (c + x.1.length) := by rw [vau_ne (by decide)]; exact a3
    have a4' : va_up A 29 g1 23 b = nI (c + x.1.length + x.2.1.length) := by rw [vau_ne (by decide)]; exact a4
    rw [fX12_tellsBy_b12]
    simp -implicitDefEqProofs (disch := first | assumption | omega | decide | exact And.intro (by omega) (by omega)) only [mck, mg_0, mp_0, mr_1, mg_2, mp_2, mr_3, mg_4, mp_4, mr_5, mr_6, mr_7, mr_8, mr_9, mg_10, mp_10, mg_11, mp_11, mg_12, mp_12, mg_13, mp_13, mg_14, mp_14, mg_15, mp_15, mg_16, mp_16, mg_17, mp_17, mg_18, mp_18, mg_19, mp_19, mg_20, mp_20, mr_21, mr_22, mr_23, mr_24, mr_25, mr_26, mr_27, mr_28, mr_29, mr_30, mr_31, mr_32, mg_33, mp_33, mr_34, mr_35, mr_36, mr_37, mr_38, mg_39, mp_39, mr_40, mr_41, mr_42, mg_43, mp_43, mr_44, mr_45, mg_46, mp_46, mr_47, mr_48, mg_49, mp_49, mg_50, mp_50, mg_51, mp_51, mr_52, mr_53, mr_54, mg_55, mp_55, mr_56, mr_57, mg_58, mp_58, mg_59, mp_59, mg_60, mp_60, mr_61, mg_62, mp_62, mr_63, mr_64, mr_65, mr_66, mr_67, mr_68, ma_1, ms_1, ma_2, ms_2, ma_3, ms_3, ma_4, ms_4, ma_5, ms_5, ma_6, ms_6, ma_7, ms_7, ma_8, ms_8, ma_9, ms_9, ma_10, ms_10, ma_11, ms_11, ma_12, ms_12, ma_13, ms_13, ma_14, ms_14, ma_15, ms_15, ma_16, ms_16, ma_17, ms_17, ma_18, ms_18, ma_19, ms_19, ma_20, ms_20, ma_21, ms_21, ma_22, ms_22, ma_23, ms_23, ma_24, ms_24, ma_25, ms_25, ma_26, ms_26, ma_27, ms_27, ma_28, ms_28, ma_29, ms_29, ma_30, ms_30, ma_31, ms_31, ma_32, ms_32, ma_33, ms_33, ma_34, ms_34, ma_35, ms_35, ma_36, ms_36, ma_37, ms_37, ma_38, ms_38, ma_39, ms_39, ma_40, ms_40, ma_41, ms_41, ma_42, ms_42, ma_43, ms_43, if_true, if_false, Option.bind_some, cb_e, lt_e, nI_1, hs_nar2, nh4, upd_at, vau_at, ma_30_18, ms_30_18, ma_31_18, ms_31_18, ma_28_0, ms_28_0, ma_28_1, ms_28_1, ma_28_2, ms_28_2, ma_28_3, ms_28_3, ma_28_4, ms_28_4, ma_42_0, ms_42_0, ma_42_1, ms_42_1, ma_42_2, ms_42_2, ma_36_0, ms_36_0, h19]
    rw [if_neg (nI_ge (by omega) (by omega))]
    have n10 : ¬ (1 : Int32) = 0 := by decide
    simp -implicitDefEqProofs (disch := first | assumption | omega | decide | exact And.intro (by omega) (by omega)) only [mck, mg_0, mp_0, mr_1, mg_2, mp_2, mr_3, mg_4, mp_4, mr_5, mr_6, mr_7, mr_8, mr_9, mg_10, mp_10, mg_11, mp_11, mg_12, mp_12, mg_13, mp_13, mg_14, mp_14, mg_15, mp_15, mg_16, mp_16, mg_17, mp_17, mg_18, mp_18, mg_19, mp_19, mg_20, mp_20, mr_21, mr_22, mr_23, mr_24, mr_25, mr_26, mr_27, mr_28, mr_29, mr_30, mr_31, mr_32, mg_33, mp_33, mr_34, mr_35, mr_36, mr_37, mr_38, mg_39, mp_39, mr_40, mr_41, mr_42, mg_43, mp_43, mr_44, mr_45, mg_46, mp_46, mr_47, mr_48, mg_49, mp_49, mg_50, mp_50, mg_51, mp_51, mr_52, mr_53, mr_54, mg_55, mp_55, mr_56, mr_57, mg_58, mp_58, mg_59, mp_59, mg_60, mp_60, mr_61, mg_62, mp_62, mr_63, mr_64, mr_65, mr_66, mr_67, mr_68, ma_1, ms_1, ma_2, ms_2, ma_3, ms_3, ma_4, ms_4, ma_5, ms_5, ma_6, ms_6, ma_7, ms_7, ma_8, ms_8, ma_9, ms_9, ma_10, ms_10, ma_11, ms_11, ma_12, ms_12, ma_13, ms_13, ma_14, ms_14, ma_15, ms_15, ma_16, ms_16, ma_17, ms_17, ma_18, ms_18, ma_19, ms_19, ma_20, ms_20, ma_21, ms_21, ma_22, ms_22, ma_23, ms_23, ma_24, ms_24, ma_25, ms_25, ma_26, ms_26, ma_27, ms_27, ma_28, ms_28, ma_29, ms_29, ma_30, ms_30, ma_31, ms_31, ma_32, ms_32, ma_33, ms_33, ma_34, ms_34, ma_35, ms_35, ma_36, ms_36, ma_37, ms_37, ma_38, ms_38, ma_39, ms_39, ma_40, ms_40, ma_41, ms_41, ma_42, ms_42, ma_43, ms_43, if_true, if_false, Option.bind_some, cb_e, lt_e, nI_1, hs_nar2, nh4, upd_at, vau_at, ma_30_18, ms_30_18, ma_31_18, ms_31_18, ma_28_0, ms_28_0, ma_28_1, ms_28_1, ma_28_2, ms_28_2, ma_28_3, ms_28_3, ma_28_4, ms_28_4, ma_42_0, ms_42_0, ma_42_1, ms_42_1, ma_42_2, ms_42_2, ma_36_0, ms_36_0, a1, if_neg n10, a2, a3, z1, a3', a4', z2]
    rw [lawF]
    cases hv : valR (v5 (A 28)) x.1 with
    | none =>
      have h1 : (if valR (v5 (A 28)) x.2.1 = none then upd (if (none : Option Int32) = none then upd F 46 1 else F) 46 1 else (if (none : Option Int32) = none then upd F 46 1 else F)) = upd F 46 1 := by
        rw [if_pos rfl]
        split
        · rw [upd_upd]
        · rfl
      rw [h1, upd_at, if_neg (by decide)]
      exact ⟨1, g2, rfl⟩
    | some p =>
      rw [if_neg (show ¬ (some p : Option Int32) = none from fun q => (by cases q))]
      cases hv2 : valR (v5 (A 28)) x.2.1 with
      | none =>
        rw [if_pos rfl, upd_at, if_neg (by decide)]
        exact ⟨1, g2, rfl⟩
      | some q =>
        rw [if_neg (show ¬ (some q : Option Int32) = none from fun q => (by cases q)), h46, if_pos rfl]
        show ∃ z g, (if p < q then _ else _) = some (if p < q then _ else _, _)
        by_cases cpq : p < q
        · rw [if_pos cpq, if_pos cpq]
          have seg3 : SegM (va_up A 29 g2) (c + x.1.length + x.2.1.length) x.2.2 := b4.eq (fun j _ _ => ⟨by rw [vau_ne (by decide)], by rw [vau_ne (by decide)]⟩)
          obtain ⟨g3, z3⟩ := m_termOf (F := F) (A := va_up A 29 g2) (B := B) o3 (by omega) seg3
          rw [vau_ne (by decide), vau_vau] at z3
          have a4'' : va_up A 29 g2 23 b = nI (c + x.1.length + x.2.1.length) := by rw [vau_ne (by decide)]; exact a4
          have a5' : va_up A 29 g2 24 b = nI (c + x.1.length + x.2.1.length + x.2.2.length) := by rw [vau_ne (by decide)]; exact a5
          unfold fX12_tellsBy_b84
          simp -implicitDefEqProofs (disch := first | assumption | omega | decide | exact And.intro (by omega) (by omega)) only [mck, mg_0, mp_0, mr_1, mg_2, mp_2, mr_3, mg_4, mp_4, mr_5, mr_6, mr_7, mr_8, mr_9, mg_10, mp_10, mg_11, mp_11, mg_12, mp_12, mg_13, mp_13, mg_14, mp_14, mg_15, mp_15, mg_16, mp_16, mg_17, mp_17, mg_18, mp_18, mg_19, mp_19, mg_20, mp_20, mr_21, mr_22, mr_23, mr_24, mr_25, mr_26, mr_27, mr_28, mr_29, mr_30, mr_31, mr_32, mg_33, mp_33, mr_34, mr_35, mr_36, mr_37, mr_38, mg_39, mp_39, mr_40, mr_41, mr_42, mg_43, mp_43, mr_44, mr_45, mg_46, mp_46, mr_47, mr_48, mg_49, mp_49, mg_50, mp_50, mg_51, mp_51, mr_52, mr_53, mr_54, mg_55, mp_55, mr_56, mr_57, mg_58, mp_58, mg_59, mp_59, mg_60, mp_60, mr_61, mg_62, mp_62, mr_63, mr_64, mr_65, mr_66, mr_67, mr_68, ma_1, ms_1, ma_2, ms_2, ma_3, ms_3, ma_4, ms_4, ma_5, ms_5, ma_6, ms_6, ma_7, ms_7, ma_8, ms_8, ma_9, ms_9, ma_10, ms_10, ma_11, ms_11, ma_12, ms_12, ma_13, ms_13, ma_14, ms_14, ma_15, ms_15, ma_16, ms_16, ma_17, ms_17, ma_18, ms_18, ma_19, ms_19, ma_20, ms_20, ma_21, ms_21, ma_22, ms_22, ma_23, ms_23, ma_24, ms_24, ma_25, ms_25, ma_26, ms_26, ma_27, ms_27, ma_28, ms_28, ma_29, ms_29, ma_30, ms_30, ma_31, ms_31, ma_32, ms_32, ma_33, ms_33, ma_34, ms_34, ma_35, ms_35, ma_36, ms_36, ma_37, ms_37, ma_38, ms_38, ma_39, ms_39, ma_40, ms_40, ma_41, ms_41, ma_42, ms_42, ma_43, ms_43, if_true, if_false, Option.bind_some, cb_e, lt_e, nI_1, hs_nar2, nh4, upd_at, vau_at, ma_30_18, ms_30_18, ma_31_18, ms_31_18, ma_28_0, ms_28_0, ma_28_1, ms_28_1, ma_28_2, ms_28_2, ma_28_3, ms_28_3, ma_28_4, ms_28_4, ma_42_0, ms_42_0, ma_42_1, ms_42_1, ma_42_2, ms_42_2, ma_36_0, ms_36_0, a4'', a5', z3]
          cases hv3 : valR (v5 (A 28)) x.2.2 with
          | none =>
            rw [if_pos rfl, upd_at, if_neg (by decide)]
            exact ⟨1, g3, rfl⟩
          | some y =>
            rw [if_neg (show ¬ (some y : Option Int32) = none from fun q => (by cases q)), h46, if_pos rfl]
            exact ⟨0, g3, by rw [hF]⟩
        · rw [if_neg cpq, if_neg cpq]
          obtain ⟨z, g, q1⟩ := m_tellsBy_go (B := B) ha he Br (b + 1) _ fuel F (va_up A 29 g2) hO' (h2.eq (fun j _ _ => ⟨by rw [vau_ne (by decide)], by rw [vau_ne (by decide)], by rw [vau_ne (by decide)], by rw [vau_ne (by decide)], by rw [vau_ne (by decide)]⟩) (fun j _ _ => ⟨by rw [vau_ne (by decide)], by rw [vau_ne (by decide)]⟩)) (by omega) (by omega) (by rw [vau_ne (by decide)]; exact h19) h46 (by omega)
          rw [vau_ne (by decide), vau_vau] at q1
          exact ⟨z, g, q1⟩
theorem LawM_of {A : Nat → Nat → Int32} {at_ b c : Nat} (ha : at_ < 12) {Br : List (List Op × List Op × List Op)} {la : List Op} (hO : OkB Br la) (hLy : LayM A Br la b c) (hb : b + Br.length + 1 ≤ 260) (hc : c + szL Br la ≤ 840) (h18 : A 18 at_ = nI b) (h19 : A 19 at_ = nI (b + Br.length + 1)) (hb1 : 130 * (at_ / 6) ≤ b) (hb2 : b + Br.length + 1 ≤ 130 * (at_ / 6) + 130) (hc1 : 420 * (at_ / 6) ≤ c) (hc2 : c + szL Br la ≤ 420 * (at_ / 6) + 420) : LawM A at_ (lawF Br la) := by
  refine ⟨fun q => ?_, fun F A' B hA => ?_⟩
  · rw [h18, h19] at q
    have := (nI_eq (by omega) (by omega)).1 q
    omega
  · have r1 : ∀ c, c ≤ 19 → MReg (at_ / 6) c at_ := fun c hc => ⟨fun _ => by omega, fun q => by omega, fun q => by omega⟩
    have r2 : ∀ c j, 20 ≤ c → c ≤ 24 → b ≤ j → j < b + Br.length + 1 → MReg (at_ / 6) c j := fun c j g1 g2 g3 g4 => ⟨fun q => by omega, fun _ _ => by omega, fun q => by omega⟩
    have r3 : ∀ k j, 25 ≤ k → c ≤ j → j < c + szL Br la → MReg (at_ / 6) k j := fun k j g1 g3 g4 => ⟨fun q => by omega, fun _ _ => by omega, fun _ => by omega⟩
    have ly : LayM A' Br la b c := hLy.eq (fun j q1 q2 => ⟨hA 20 j (by decide) (by decide) (r2 20 j (by decide) (by decide) q1 (by omega)), hA 21 j (by decide) (by decide) (r2 21 j (by decide) (by decide) q1 (by omega)), hA 22 j (by decide) (by decide) (r2 22 j (by decide) (by decide) q1 (by omega)), hA 23 j (by decide) (by decide) (r2 23 j (by decide) (by decide) q1 (by omega)), hA 24 j (by decide) (by decide) (r2 24 j (by decide) (by decide) q1 (by omega))⟩) (fun j q1 q2 => ⟨hA 25 j (by decide) (by decide) (r3 25 j (by decide) q1 q2), hA 26 j (by decide) (by decide) (r3 26 j (by decide) q1 q2)⟩)
    have k18 : A' 18 at_ = nI b := by rw [hA 18 at_ (by decide) (by decide) (r1 18 (by decide))]; exact h18
    have k19 : A' 19 at_ = nI (b + Br.length + 1) := by rw [hA 19 at_ (by decide) (by decide) (r1 19 (by decide))]; exact h19
    obtain ⟨z, g, q⟩ := m_tellsBy_go (B := B) ha hb Br b c FU (upd F 46 0) A' hO ly rfl hc k19 (upd_at _ _ _) (by unfold FU; omega)
    rw [upd_upd] at q
    refine ⟨z, g, ?_⟩
    unfold fX12_tellsBy
    simp -implicitDefEqProofs (disch := first | assumption | omega | decide | exact And.intro (by omega) (by omega)) only [mck, mg_0, mp_0, mr_1, mg_2, mp_2, mr_3, mg_4, mp_4, mr_5, mr_6, mr_7, mr_8, mr_9, mg_10, mp_10, mg_11, mp_11, mg_12, mp_12, mg_13, mp_13, mg_14, mp_14, mg_15, mp_15, mg_16, mp_16, mg_17, mp_17, mg_18, mp_18, mg_19, mp_19, mg_20, mp_20, mr_21, mr_22, mr_23, mr_24, mr_25, mr_26, mr_27, mr_28, mr_29, mr_30, mr_31, mr_32, mg_33, mp_33, mr_34, mr_35, mr_36, mr_37, mr_38, mg_39, mp_39, mr_40, mr_41, mr_42, mg_43, mp_43, mr_44, mr_45, mg_46, mp_46, mr_47, mr_48, mg_49, mp_49, mg_50, mp_50, mg_51, mp_51, mr_52, mr_53, mr_54, mg_55, mp_55, mr_56, mr_57, mg_58, mp_58, mg_59, mp_59, mg_60, mp_60, mr_61, mg_62, mp_62, mr_63, mr_64, mr_65, mr_66, mr_67, mr_68, ma_1, ms_1, ma_2, ms_2, ma_3, ms_3, ma_4, ms_4, ma_5, ms_5, ma_6, ms_6, ma_7, ms_7, ma_8, ms_8, ma_9, ms_9, ma_10, ms_10, ma_11, ms_11, ma_12, ms_12, ma_13, ms_13, ma_14, ms_14, ma_15, ms_15, ma_16, ms_16, ma_17, ms_17, ma_18, ms_18, ma_19, ms_19, ma_20, ms_20, ma_21, ms_21, ma_22, ms_22, ma_23, ms_23, ma_24, ms_24, ma_25, ms_25, ma_26, ms_26, ma_27, ms_27, ma_28, ms_28, ma_29, ms_29, ma_30, ms_30, ma_31, ms_31, ma_32, ms_32, ma_33, ms_33, ma_34, ms_34, ma_35, ms_35, ma_36, ms_36, ma_37, ms_37, ma_38, ms_38, ma_39, ms_39, ma_40, ms_40, ma_41, ms_41, ma_42, ms_42, ma_43, ms_43, if_true, if_false, Option.bind_some, cb_e, lt_e, nI_1, hs_nar2, nh4, upd_at, vau_at, ma_30_18, ms_30_18, ma_31_18, ms_31_18, ma_28_0, ms_28_0, ma_28_1, ms_28_1, ma_28_2, ms_28_2, ma_28_3, ms_28_3, ma_28_4, ms_28_4, ma_42_0, ms_42_0, ma_42_1, ms_42_1, ma_42_2, ms_42_2, ma_36_0, ms_36_0, k18]
    exact q
