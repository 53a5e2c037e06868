/-! ===== the tape ===== -/
theorem FU_5 : FU = 99995 + 5 := rfl
theorem upd_upd (f : Nat → Int32) (k : Nat) (x y : Int32) : upd (upd f k x) k y = upd f k y := by
  funext j
  unfold upd
  split <;> rfl
theorem upd_at (f : Nat → Int32) (k : Nat) (x : Int32) : upd f k x k = x := by simp [upd]
theorem upd_ne {f : Nat → Int32} {k j : Nat} {x : Int32} (h : ¬ j = k) : upd f k x j = f j := by simp [upd, h]
theorem vau_at {α : Type} (f : Nat → α) (k : Nat) (x : α) : va_up f k x k = x := by simp [va_up]
theorem vau_ne {α : Type} {f : Nat → α} {k j : Nat} {x : α} (h : ¬ j = k) : va_up f k x j = f j := by simp [va_up, h]
theorem mput1 (F : Nat → Int32) (A : Nat → Nat → Int32) (B : Nat → Nat → Int64) {t : Nat} (w x : Int32) (n : Nat) (h0 : ¬ x < 0) (ht : F 2 = nI t) (h : t < 2000) : fX12_put_b3 (n + 1) 0 w x (mkM F A B) = fX12_put_b3 n 0 w (x + (-8)) (mkM (upd F 2 (nI (t + 1))) (va_up A 1 (upd (A 1) t (w >>> (x &&& 31)).toInt8.toInt32)) B) := by
  rw [fX12_put_b3, if_neg h0]
  have hn : hs_nar 0 (w >>> (x &&& 31)).toInt8.toInt32 = (w >>> (x &&& 31)).toInt8.toInt32 := pk_vb _
  simp only [mr_1, mg_2, mp_2, Option.bind_some, ht, ms_1 _ _ _ h, nI_1, hn]
theorem mput (F : Nat → Int32) (A : Nat → Nat → Int32) (B : Nat → Nat → Int64) {t : Nat} (w : Int32) (ht : F 2 = nI t) (h : t + 4 ≤ 2000) : fX12_put 0 w (mkM F A B) = some ((), mkM (upd F 2 (nI (t + 4))) (va_up A 1 (upd (upd (upd (upd (A 1) t (w >>> ((24 : Int32) &&& 31)).toInt8.toInt32) (t + 1) (w >>> ((16 : Int32) &&& 31)).toInt8.toInt32) (t + 2) (w >>> ((8 : Int32) &&& 31)).toInt8.toInt32) (t + 3) (w >>> ((0 : Int32) &&& 31)).toInt8.toInt32)) B) := by
  unfold fX12_put
  rw [mck, FU_5]
  rw [mput1 F A B w _ _ (by decide) ht (by omega), show ((24 : Int32) + -8) = 16 from by decide]
  rw [mput1 _ _ B (t := t + 1) w _ _ (by decide) (upd_at _ _ _) (by omega), show ((16 : Int32) + -8) = 8 from by decide]
  rw [mput1 _ _ B (t := t + 2) w _ _ (by decide) (upd_at _ _ _) (by omega), show ((8 : Int32) + -8) = 0 from by decide]
  rw [mput1 _ _ B (t := t + 3) w _ _ (by decide) (upd_at _ _ _) (by omega), show ((0 : Int32) + -8) = -8 from by decide]
  rw [fX12_put_b3, if_pos (by decide)]
  simp only [upd_upd, bx_uu, vau_at]
theorem cput1 (F A : Nat → Nat → Int32) (B : Nat → Nat → Int64) (r : Nat → Nat) {t : Nat} (w x : Int32) (n : Nat) (h0 : ¬ x < 0) (ht : F 0 1 = nI t) (h : t < 2000) : fX11_putBytes_b3 (n + 1) 0 w x (mkC F A B r) = fX11_putBytes_b3 n 0 w (x + (-8)) (mkC (va_up F 0 (upd (F 0) 1 (nI (t + 1)))) (va_up A 1 (upd (A 1) t (hs_nar 1 ((((w.toUInt32 >>> (x.toUInt32 &&& Int32.toUInt32 31)).toInt32) &&& 255).toUInt32 % 65536).toInt32))) B r) := by
  rw [fX11_putBytes_b3, if_neg h0]
  have h2 : ¬ (2000 : Int32) ≤ nI t := nI_ge (b := 2000) h (by decide)
  simp only [cg11_1 (c := 0) rfl, Option.bind_some, ht, if_neg h2, cr11_0 (c := 0) rfl, cs_30 (c := 1) rfl h, cp11_1 (c := 0) rfl, nI_1]
theorem cput (F A : Nat → Nat → Int32) (B : Nat → Nat → Int64) (r : Nat → Nat) {t : Nat} (w : Int32) (ht : F 0 1 = nI t) (h : t + 4 ≤ 2000) : ∃ g : Nat → Int32, fX11_putBytes 0 w (mkC F A B r) = some ((), mkC (va_up F 0 (upd (F 0) 1 (nI (t + 4)))) (va_up A 1 g) B r) ∧ g = upd (upd (upd (upd (A 1) t (hs_nar 1 ((((w.toUInt32 >>> ((24 : Int32).toUInt32 &&& Int32.toUInt32 31)).toInt32) &&& 255).toUInt32 % 65536).toInt32)) (t + 1) (hs_nar 1 ((((w.toUInt32 >>> ((16 : Int32).toUInt32 &&& Int32.toUInt32 31)).toInt32) &&& 255).toUInt32 % 65536).toInt32)) (t + 2) (hs_nar 1 ((((w.toUInt32 >>> ((8 : Int32).toUInt32 &&& Int32.toUInt32 31)).toInt32) &&& 255).toUInt32 % 65536).toInt32)) (t + 3) (hs_nar 1 ((((w.toUInt32 >>> ((0 : Int32).toUInt32 &&& Int32.toUInt32 31)).toInt32) &&& 255).toUInt32 % 65536).toInt32) := by
  refine ⟨_, ?_, rfl⟩
  unfold fX11_putBytes
  rw [cck_11 rfl, FU_5]
  rw [cput1 F A B r w _ _ (by decide) ht (by omega), show ((24 : Int32) + -8) = 16 from by decide]
  rw [cput1 _ _ B r (t := t + 1) w _ _ (by decide) (by rw [vau_at, upd_at]) (by omega), show ((16 : Int32) + -8) = 8 from by decide]
  rw [cput1 _ _ B r (t := t + 2) w _ _ (by decide) (by rw [vau_at, upd_at]) (by omega), show ((8 : Int32) + -8) = 0 from by decide]
  rw [cput1 _ _ B r (t := t + 3) w _ _ (by decide) (by rw [vau_at, upd_at]) (by omega), show ((0 : Int32) + -8) = -8 from by decide]
  rw [fX11_putBytes_b3, if_pos (by decide)]
  simp only [upd_upd, bx_uu, vau_at]
/-- a byte on both tapes -/
theorem byte_eq (w s : Int32) (k : Nat) (hk : k = 0 ∨ k = 8 ∨ k = 16 ∨ k = 24) (h1 : ((s &&& 31).toBitVec.smod 32).toNat = k) (h2 : ((s.toUInt32 &&& Int32.toUInt32 31).toBitVec % 32).toNat = k) : hs_nar 1 ((((w.toUInt32 >>> (s.toUInt32 &&& Int32.toUInt32 31)).toInt32) &&& 255).toUInt32 % 65536).toInt32 = (w >>> (s &&& 31)).toInt8.toInt32 &&& 255 := by
  have e1 : hs_nar 1 ((((w.toUInt32 >>> (s.toUInt32 &&& Int32.toUInt32 31)).toInt32) &&& 255).toUInt32 % 65536).toInt32 = ((((w.toUInt32 >>> (s.toUInt32 &&& Int32.toUInt32 31)).toInt32) &&& 255).toUInt32 % 65536).toInt32 := pk_vc _
  rw [e1, bp_b, pk_char, pk_and _ (m := 255) 8 (by decide), pk_and _ (m := 255) 8 (by decide), pk_tn (by omega)]
  have e3 := pk_ushr w s k h2
  have e4 := pk_shr w (s &&& 31) k h1
  rw [e3]
  have e5 : (w >>> (s &&& 31)).toInt = if 2 * (w >>> (s &&& 31)).toBitVec.toNat < 2 ^ 32 then ((w >>> (s &&& 31)).toBitVec.toNat : Int) else ((w >>> (s &&& 31)).toBitVec.toNat : Int) - (2 ^ 32 : Nat) := BitVec.toInt_eq_toNat_cond _
  have e6 : w.toInt = if 2 * w.toBitVec.toNat < 2 ^ 32 then (w.toBitVec.toNat : Int) else (w.toBitVec.toNat : Int) - (2 ^ 32 : Nat) := BitVec.toInt_eq_toNat_cond _
  have e7 := (w >>> (s &&& 31)).toBitVec.isLt
  have e8 := w.toBitVec.isLt
  rw [Int.shiftRight_eq_div_pow] at e4
  generalize (w >>> (s &&& 31)).toInt = z at *
  generalize (w >>> (s &&& 31)).toBitVec.toNat = y at *
  generalize w.toInt = v at *
  generalize w.toBitVec.toNat = u at *
  congr 1
  rcases hk with rfl | rfl | rfl | rfl <;> split at e5 <;> split at e6 <;> simp only [Nat.reducePow] at * <;> omega
