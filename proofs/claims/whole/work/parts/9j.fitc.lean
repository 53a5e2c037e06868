/-! ===== the class as it begins ===== -/
theorem rf_s {g : Nat → Option Nat} {m v : Nat} {e : Nat → Nat} (h : g = fun j => if j < m then some (e j) else none) (hv : v = e m) : va_up g m (some v) = fun j => if j < m + 1 then some (e j) else none := by
  funext j
  subst h hv
  unfold va_up
  by_cases c : j = m
  · rw [if_pos c, if_pos (by omega), c]
  · rw [if_neg c]
    dsimp only
    by_cases c2 : j < m
    · rw [if_pos c2, if_pos (by omega)]
    · rw [if_neg c2, if_neg (by omega)]
theorem rf_0 (e : Nat → Nat) : (fun _ => none : Nat → Option Nat) = fun j => if j < 0 then some (e j) else none := by
  funext j
  rw [if_neg (Nat.not_lt_zero j)]
theorem getD_d : ∀ (l : List Int64) (n : Nat), l.length ≤ n → l.getD n 0 = 0
  | [], _, _ => rfl
  | _ :: _, 0, h => absurd h (Nat.not_succ_le_zero _)
  | _ :: l, n + 1, h => getD_d l n (Nat.le_of_succ_le_succ h)
theorem zcf17_r : zcf17 = fun j => if j < 0 + 1 then some ((fun j => 57 + 4 * j) j) else none := rf_s (e := (fun j => 57 + 4 * j)) (rf_0 (fun j => 57 + 4 * j)) rfl
theorem zcf18_r : zcf18 = fun j => if j < 1 + 1 then some ((fun j => 57 + 4 * j) j) else none := rf_s (e := (fun j => 57 + 4 * j)) zcf17_r rfl
theorem zcf19_r : zcf19 = fun j => if j < 2 + 1 then some ((fun j => 57 + 4 * j) j) else none := rf_s (e := (fun j => 57 + 4 * j)) zcf18_r rfl
theorem zcf20_r : zcf20 = fun j => if j < 0 + 1 then some ((fun j => 75 + 8 * j) j) else none := rf_s (e := (fun j => 75 + 8 * j)) (rf_0 (fun j => 75 + 8 * j)) rfl
theorem zcf21_r : zcf21 = fun j => if j < 1 + 1 then some ((fun j => 75 + 8 * j) j) else none := rf_s (e := (fun j => 75 + 8 * j)) zcf20_r rfl
theorem zcf22_r : zcf22 = fun j => if j < 2 + 1 then some ((fun j => 75 + 8 * j) j) else none := rf_s (e := (fun j => 75 + 8 * j)) zcf21_r rfl
theorem zcf23_r : zcf23 = fun j => if j < 3 + 1 then some ((fun j => 75 + 8 * j) j) else none := rf_s (e := (fun j => 75 + 8 * j)) zcf22_r rfl
theorem zcf24_r : zcf24 = fun j => if j < 4 + 1 then some ((fun j => 75 + 8 * j) j) else none := rf_s (e := (fun j => 75 + 8 * j)) zcf23_r rfl
theorem zcf25_r : zcf25 = fun j => if j < 5 + 1 then some ((fun j => 75 + 8 * j) j) else none := rf_s (e := (fun j => 75 + 8 * j)) zcf24_r rfl
theorem zcf26_r : zcf26 = fun j => if j < 0 + 1 then some ((fun j => 127 + j) j) else none := rf_s (e := (fun j => 127 + j)) (rf_0 (fun j => 127 + j)) rfl
theorem zcf27_r : zcf27 = fun j => if j < 1 + 1 then some ((fun j => 127 + j) j) else none := rf_s (e := (fun j => 127 + j)) zcf26_r rfl
theorem zcf28_r : zcf28 = fun j => if j < 2 + 1 then some ((fun j => 127 + j) j) else none := rf_s (e := (fun j => 127 + j)) zcf27_r rfl
theorem zcf29_r : zcf29 = fun j => if j < 3 + 1 then some ((fun j => 127 + j) j) else none := rf_s (e := (fun j => 127 + j)) zcf28_r rfl
theorem zcf30_r : zcf30 = fun j => if j < 4 + 1 then some ((fun j => 127 + j) j) else none := rf_s (e := (fun j => 127 + j)) zcf29_r rfl
theorem zcf31_r : zcf31 = fun j => if j < 5 + 1 then some ((fun j => 127 + j) j) else none := rf_s (e := (fun j => 127 + j)) zcf30_r rfl
theorem zcf32_r : zcf32 = fun j => if j < 6 + 1 then some ((fun j => 127 + j) j) else none := rf_s (e := (fun j => 127 + j)) zcf31_r rfl
theorem zcf33_r : zcf33 = fun j => if j < 7 + 1 then some ((fun j => 127 + j) j) else none := rf_s (e := (fun j => 127 + j)) zcf32_r rfl
theorem zcf34_r : zcf34 = fun j => if j < 8 + 1 then some ((fun j => 127 + j) j) else none := rf_s (e := (fun j => 127 + j)) zcf33_r rfl
theorem zcf35_r : zcf35 = fun j => if j < 9 + 1 then some ((fun j => 127 + j) j) else none := rf_s (e := (fun j => 127 + j)) zcf34_r rfl
theorem zcf36_r : zcf36 = fun j => if j < 10 + 1 then some ((fun j => 127 + j) j) else none := rf_s (e := (fun j => 127 + j)) zcf35_r rfl
theorem zcf37_r : zcf37 = fun j => if j < 11 + 1 then some ((fun j => 127 + j) j) else none := rf_s (e := (fun j => 127 + j)) zcf36_r rfl
theorem zcf38_r : zcf38 = fun j => if j < 12 + 1 then some ((fun j => 127 + j) j) else none := rf_s (e := (fun j => 127 + j)) zcf37_r rfl
theorem zcf39_r : zcf39 = fun j => if j < 13 + 1 then some ((fun j => 127 + j) j) else none := rf_s (e := (fun j => 127 + j)) zcf38_r rfl
theorem zcf40_r : zcf40 = fun j => if j < 14 + 1 then some ((fun j => 127 + j) j) else none := rf_s (e := (fun j => 127 + j)) zcf39_r rfl
theorem zcf41_r : zcf41 = fun j => if j < 15 + 1 then some ((fun j => 127 + j) j) else none := rf_s (e := (fun j => 127 + j)) zcf40_r rfl
theorem zcf42_r : zcf42 = fun j => if j < 16 + 1 then some ((fun j => 127 + j) j) else none := rf_s (e := (fun j => 127 + j)) zcf41_r rfl
theorem zcf43_r : zcf43 = fun j => if j < 17 + 1 then some ((fun j => 127 + j) j) else none := rf_s (e := (fun j => 127 + j)) zcf42_r rfl
theorem zcf44_r : zcf44 = fun j => if j < 18 + 1 then some ((fun j => 127 + j) j) else none := rf_s (e := (fun j => 127 + j)) zcf43_r rfl
theorem zcf45_r : zcf45 = fun j => if j < 19 + 1 then some ((fun j => 127 + j) j) else none := rf_s (e := (fun j => 127 + j)) zcf44_r rfl
theorem zcf46_r : zcf46 = fun j => if j < 20 + 1 then some ((fun j => 127 + j) j) else none := rf_s (e := (fun j => 127 + j)) zcf45_r rfl
theorem zcf47_r : zcf47 = fun j => if j < 21 + 1 then some ((fun j => 127 + j) j) else none := rf_s (e := (fun j => 127 + j)) zcf46_r rfl
theorem zcf48_r : zcf48 = fun j => if j < 22 + 1 then some ((fun j => 127 + j) j) else none := rf_s (e := (fun j => 127 + j)) zcf47_r rfl
theorem zcf49_r : zcf49 = fun j => if j < 23 + 1 then some ((fun j => 127 + j) j) else none := rf_s (e := (fun j => 127 + j)) zcf48_r rfl
theorem zcf50_r : zcf50 = fun j => if j < 24 + 1 then some ((fun j => 127 + j) j) else none := rf_s (e := (fun j => 127 + j)) zcf49_r rfl
theorem zcf51_r : zcf51 = fun j => if j < 25 + 1 then some ((fun j => 127 + j) j) else none := rf_s (e := (fun j => 127 + j)) zcf50_r rfl
theorem zcf52_r : zcf52 = fun j => if j < 26 + 1 then some ((fun j => 127 + j) j) else none := rf_s (e := (fun j => 127 + j)) zcf51_r rfl
theorem zcf53_r : zcf53 = fun j => if j < 27 + 1 then some ((fun j => 127 + j) j) else none := rf_s (e := (fun j => 127 + j)) zcf52_r rfl
theorem zcf54_r : zcf54 = fun j => if j < 28 + 1 then some ((fun j => 127 + j) j) else none := rf_s (e := (fun j => 127 + j)) zcf53_r rfl
theorem zcf55_r : zcf55 = fun j => if j < 29 + 1 then some ((fun j => 127 + j) j) else none := rf_s (e := (fun j => 127 + j)) zcf54_r rfl
theorem zcf56_r : zcf56 = fun j => if j < 30 + 1 then some ((fun j => 127 + j) j) else none := rf_s (e := (fun j => 127 + j)) zcf55_r rfl
theorem zcf57_r : zcf57 = fun j => if j < 31 + 1 then some ((fun j => 127 + j) j) else none := rf_s (e := (fun j => 127 + j)) zcf56_r rfl
theorem zcf58_r : zcf58 = fun j => if j < 32 + 1 then some ((fun j => 127 + j) j) else none := rf_s (e := (fun j => 127 + j)) zcf57_r rfl
theorem zcf59_r : zcf59 = fun j => if j < 33 + 1 then some ((fun j => 127 + j) j) else none := rf_s (e := (fun j => 127 + j)) zcf58_r rfl
theorem zcf60_r : zcf60 = fun j => if j < 34 + 1 then some ((fun j => 127 + j) j) else none := rf_s (e := (fun j => 127 + j)) zcf59_r rfl
theorem zcf61_r : zcf61 = fun j => if j < 35 + 1 then some ((fun j => 127 + j) j) else none := rf_s (e := (fun j => 127 + j)) zcf60_r rfl
theorem zcf62_r : zcf62 = fun j => if j < 36 + 1 then some ((fun j => 127 + j) j) else none := rf_s (e := (fun j => 127 + j)) zcf61_r rfl
theorem zcf63_r : zcf63 = fun j => if j < 37 + 1 then some ((fun j => 127 + j) j) else none := rf_s (e := (fun j => 127 + j)) zcf62_r rfl
theorem zcf64_r : zcf64 = fun j => if j < 38 + 1 then some ((fun j => 127 + j) j) else none := rf_s (e := (fun j => 127 + j)) zcf63_r rfl
theorem zcf65_r : zcf65 = fun j => if j < 39 + 1 then some ((fun j => 127 + j) j) else none := rf_s (e := (fun j => 127 + j)) zcf64_r rfl
theorem zcf66_r : zcf66 = fun j => if j < 40 + 1 then some ((fun j => 127 + j) j) else none := rf_s (e := (fun j => 127 + j)) zcf65_r rfl
theorem zcf67_r : zcf67 = fun j => if j < 41 + 1 then some ((fun j => 127 + j) j) else none := rf_s (e := (fun j => 127 + j)) zcf66_r rfl
theorem zcf68_r : zcf68 = fun j => if j < 42 + 1 then some ((fun j => 127 + j) j) else none := rf_s (e := (fun j => 127 + j)) zcf67_r rfl
theorem zcf69_r : zcf69 = fun j => if j < 43 + 1 then some ((fun j => 127 + j) j) else none := rf_s (e := (fun j => 127 + j)) zcf68_r rfl
theorem zcf70_r : zcf70 = fun j => if j < 44 + 1 then some ((fun j => 127 + j) j) else none := rf_s (e := (fun j => 127 + j)) zcf69_r rfl
theorem zcf71_r : zcf71 = fun j => if j < 45 + 1 then some ((fun j => 127 + j) j) else none := rf_s (e := (fun j => 127 + j)) zcf70_r rfl
theorem zcf72_r : zcf72 = fun j => if j < 46 + 1 then some ((fun j => 127 + j) j) else none := rf_s (e := (fun j => 127 + j)) zcf71_r rfl
theorem zcf73_r : zcf73 = fun j => if j < 47 + 1 then some ((fun j => 127 + j) j) else none := rf_s (e := (fun j => 127 + j)) zcf72_r rfl
theorem zcf74_r : zcf74 = fun j => if j < 48 + 1 then some ((fun j => 127 + j) j) else none := rf_s (e := (fun j => 127 + j)) zcf73_r rfl
theorem zcf75_r : zcf75 = fun j => if j < 49 + 1 then some ((fun j => 127 + j) j) else none := rf_s (e := (fun j => 127 + j)) zcf74_r rfl
theorem zcf76_r : zcf76 = fun j => if j < 50 + 1 then some ((fun j => 127 + j) j) else none := rf_s (e := (fun j => 127 + j)) zcf75_r rfl
theorem zcf77_r : zcf77 = fun j => if j < 51 + 1 then some ((fun j => 127 + j) j) else none := rf_s (e := (fun j => 127 + j)) zcf76_r rfl
theorem zcf78_r : zcf78 = fun j => if j < 52 + 1 then some ((fun j => 127 + j) j) else none := rf_s (e := (fun j => 127 + j)) zcf77_r rfl
theorem zcf79_r : zcf79 = fun j => if j < 53 + 1 then some ((fun j => 127 + j) j) else none := rf_s (e := (fun j => 127 + j)) zcf78_r rfl
theorem zcf80_r : zcf80 = fun j => if j < 54 + 1 then some ((fun j => 127 + j) j) else none := rf_s (e := (fun j => 127 + j)) zcf79_r rfl
theorem zcf81_r : zcf81 = fun j => if j < 55 + 1 then some ((fun j => 127 + j) j) else none := rf_s (e := (fun j => 127 + j)) zcf80_r rfl
theorem zcf82_r : zcf82 = fun j => if j < 56 + 1 then some ((fun j => 127 + j) j) else none := rf_s (e := (fun j => 127 + j)) zcf81_r rfl
theorem zcf83_r : zcf83 = fun j => if j < 57 + 1 then some ((fun j => 127 + j) j) else none := rf_s (e := (fun j => 127 + j)) zcf82_r rfl
theorem zcf84_r : zcf84 = fun j => if j < 58 + 1 then some ((fun j => 127 + j) j) else none := rf_s (e := (fun j => 127 + j)) zcf83_r rfl
theorem zcf85_r : zcf85 = fun j => if j < 59 + 1 then some ((fun j => 127 + j) j) else none := rf_s (e := (fun j => 127 + j)) zcf84_r rfl
theorem zcf86_r : zcf86 = fun j => if j < 60 + 1 then some ((fun j => 127 + j) j) else none := rf_s (e := (fun j => 127 + j)) zcf85_r rfl
theorem zcf87_r : zcf87 = fun j => if j < 61 + 1 then some ((fun j => 127 + j) j) else none := rf_s (e := (fun j => 127 + j)) zcf86_r rfl
theorem zcf88_r : zcf88 = fun j => if j < 62 + 1 then some ((fun j => 127 + j) j) else none := rf_s (e := (fun j => 127 + j)) zcf87_r rfl
theorem zcf89_r : zcf89 = fun j => if j < 63 + 1 then some ((fun j => 127 + j) j) else none := rf_s (e := (fun j => 127 + j)) zcf88_r rfl
theorem zcf1_o {j : Nat} (h : 16 ≤ j) : zcf1 j = 0 := (updL_ne (by omega)).trans rfl
theorem zcf2_o {j : Nat} (h : 16 ≤ j) : zcf2 j = 0 := (updL_ne (by omega)).trans (zcf1_o h)
theorem zcf3_o {j : Nat} (h : 16 ≤ j) : zcf3 j = 0 := (updL_ne (by omega)).trans (zcf2_o h)
theorem zcf4_o {j : Nat} (h : 16 ≤ j) : zcf4 j = 0 := (updL_ne (by omega)).trans (zcf3_o h)
theorem zcf5_o {j : Nat} (h : 16 ≤ j) : zcf5 j = 0 := (updL_ne (by omega)).trans (zcf4_o h)
theorem zcf6_o {j : Nat} (h : 16 ≤ j) : zcf6 j = 0 := (updL_ne (by omega)).trans (zcf5_o h)
theorem zcf7_o {j : Nat} (h : 16 ≤ j) : zcf7 j = 0 := (updL_ne (by omega)).trans (zcf6_o h)
theorem zcf8_o {j : Nat} (h : 16 ≤ j) : zcf8 j = 0 := (updL_ne (by omega)).trans (zcf7_o h)
theorem zcf9_o {j : Nat} (h : 16 ≤ j) : zcf9 j = 0 := (updL_ne (by omega)).trans (zcf8_o h)
theorem zcf10_o {j : Nat} (h : 16 ≤ j) : zcf10 j = 0 := (updL_ne (by omega)).trans (zcf9_o h)
theorem zcf11_o {j : Nat} (h : 16 ≤ j) : zcf11 j = 0 := (updL_ne (by omega)).trans (zcf10_o h)
theorem zcf12_o {j : Nat} (h : 16 ≤ j) : zcf12 j = 0 := (updL_ne (by omega)).trans (zcf11_o h)
theorem zcf13_o {j : Nat} (h : 16 ≤ j) : zcf13 j = 0 := (updL_ne (by omega)).trans (zcf12_o h)
theorem zcf14_o {j : Nat} (h : 16 ≤ j) : zcf14 j = 0 := (updL_ne (by omega)).trans (zcf13_o h)
theorem zcf15_o {j : Nat} (h : 16 ≤ j) : zcf15 j = 0 := (updL_ne (by omega)).trans (zcf14_o h)
theorem zcf16_o {j : Nat} (h : 16 ≤ j) : zcf16 j = 0 := (updL_ne (by omega)).trans (zcf15_o h)
theorem zc_words : zcf16 = wordsC := by
  funext j
  by_cases h : j < 16
  · exact (show ∀ j, j < 16 → zcf16 j = wordsC j from (all_s (all_s (all_s (all_s (all_s (all_s (all_s (all_s (all_s (all_s (all_s (all_s (all_s (all_s (all_s (all_s (fun k hk => absurd hk (Nat.not_lt_zero k)) (by decide +kernel)) (by decide +kernel)) (by decide +kernel)) (by decide +kernel)) (by decide +kernel)) (by decide +kernel)) (by decide +kernel)) (by decide +kernel)) (by decide +kernel)) (by decide +kernel)) (by decide +kernel)) (by decide +kernel)) (by decide +kernel)) (by decide +kernel)) (by decide +kernel)) (by decide +kernel))) j h
  · rw [zcf16_o (by omega)]
    exact (getD_d _ j (by show 16 ≤ j; omega)).symm
def zF : Nat → Nat → Int32 := fun k i => if k = 37 ∧ (i = 4 ∨ i = 6) then -1 else if (k = 7 ∨ k = 22) ∧ i = 9 then 100 else 0
def zA : Nat → Nat → Int32 := fun _ _ => 0
def zB : Nat → Nat → Int64 := fun k => if k = 3 then zcf16 else if 126 ≤ k ∧ k ≤ 191 then (fun i => if i = 1 then 1 else 0) else fun _ => 0
def zR : Nat → Nat := fun j => [7, 22, 22, 7, 38].getD j 0
theorem zcd0 {k : Nat} (h : 193 ≤ k) : zcs0.2 k = .inr (99, []) := if_neg (by omega)
theorem zcd1 {k : Nat} (h : 193 ≤ k) : zcs1.2 k = .inr (99, []) := (vau_ne (by omega)).trans (zcd0 h)
theorem zcd2 {k : Nat} (h : 193 ≤ k) : zcs2.2 k = .inr (99, []) := (vau_ne (by omega)).trans (zcd1 h)
theorem zcd3 {k : Nat} (h : 193 ≤ k) : zcs3.2 k = .inr (99, []) := (vau_ne (by omega)).trans (zcd2 h)
theorem zcd4 {k : Nat} (h : 193 ≤ k) : zcs4.2 k = .inr (99, []) := (vau_ne (by omega)).trans (zcd3 h)
theorem zcd5 {k : Nat} (h : 193 ≤ k) : zcs5.2 k = .inr (99, []) := (vau_ne (by omega)).trans (zcd4 h)
theorem zcd6 {k : Nat} (h : 193 ≤ k) : zcs6.2 k = .inr (99, []) := (vau_ne (by omega)).trans (zcd5 h)
theorem zcd7 {k : Nat} (h : 193 ≤ k) : zcs7.2 k = .inr (99, []) := (vau_ne (by omega)).trans (zcd6 h)
theorem zcd8 {k : Nat} (h : 193 ≤ k) : zcs8.2 k = .inr (99, []) := (vau_ne (by omega)).trans (zcd7 h)
theorem zcd9 {k : Nat} (h : 193 ≤ k) : zcs9.2 k = .inr (99, []) := (vau_ne (by omega)).trans (zcd8 h)
theorem zcd10 {k : Nat} (h : 193 ≤ k) : zcs10.2 k = .inr (99, []) := (vau_ne (by omega)).trans (zcd9 h)
theorem zcd11 {k : Nat} (h : 193 ≤ k) : zcs11.2 k = .inr (99, []) := (vau_ne (by omega)).trans (zcd10 h)
theorem zcd12 {k : Nat} (h : 193 ≤ k) : zcs12.2 k = .inr (99, []) := (vau_ne (by omega)).trans (zcd11 h)
theorem zcd13 {k : Nat} (h : 193 ≤ k) : zcs13.2 k = .inr (99, []) := (vau_ne (by omega)).trans (zcd12 h)
theorem zcd14 {k : Nat} (h : 193 ≤ k) : zcs14.2 k = .inr (99, []) := (vau_ne (by omega)).trans (zcd13 h)
theorem zcd15 {k : Nat} (h : 193 ≤ k) : zcs15.2 k = .inr (99, []) := (vau_ne (by omega)).trans (zcd14 h)
theorem zcd16 {k : Nat} (h : 193 ≤ k) : zcs16.2 k = .inr (99, []) := (vau_ne (by omega)).trans (zcd15 h)
theorem zcd17 {k : Nat} (h : 193 ≤ k) : zcs17.2 k = .inr (99, []) := (vau_ne (by omega)).trans (zcd16 h)
theorem zcd18 {k : Nat} (h : 193 ≤ k) : zcs18.2 k = .inr (99, []) := (vau_ne (by omega)).trans (zcd17 h)
theorem zcd19 {k : Nat} (h : 193 ≤ k) : zcs19.2 k = .inr (99, []) := (vau_ne (by omega)).trans (zcd18 h)
theorem zcd20 {k : Nat} (h : 193 ≤ k) : zcs20.2 k = .inr (99, []) := (vau_ne (by omega)).trans (zcd19 h)
theorem zcd21 {k : Nat} (h : 193 ≤ k) : zcs21.2 k = .inr (99, []) := (vau_ne (by omega)).trans (zcd20 h)
theorem zcd22 {k : Nat} (h : 193 ≤ k) : zcs22.2 k = .inr (99, []) := (vau_ne (by omega)).trans (zcd21 h)
theorem zcd23 {k : Nat} (h : 193 ≤ k) : zcs23.2 k = .inr (99, []) := (vau_ne (by omega)).trans (zcd22 h)
theorem zcd24 {k : Nat} (h : 193 ≤ k) : zcs24.2 k = .inr (99, []) := (vau_ne (by omega)).trans (zcd23 h)
theorem zcd25 {k : Nat} (h : 193 ≤ k) : zcs25.2 k = .inr (99, []) := (vau_ne (by omega)).trans (zcd24 h)
theorem zcd26 {k : Nat} (h : 193 ≤ k) : zcs26.2 k = .inr (99, []) := (vau_ne (by omega)).trans (zcd25 h)
theorem zcd27 {k : Nat} (h : 193 ≤ k) : zcs27.2 k = .inr (99, []) := (vau_ne (by omega)).trans (zcd26 h)
theorem zcd28 {k : Nat} (h : 193 ≤ k) : zcs28.2 k = .inr (99, []) := (vau_ne (by omega)).trans (zcd27 h)
theorem zcd29 {k : Nat} (h : 193 ≤ k) : zcs29.2 k = .inr (99, []) := (vau_ne (by omega)).trans (zcd28 h)
theorem zcd30 {k : Nat} (h : 193 ≤ k) : zcs30.2 k = .inr (99, []) := (vau_ne (by omega)).trans (zcd29 h)
theorem zcd31 {k : Nat} (h : 193 ≤ k) : zcs31.2 k = .inr (99, []) := (vau_ne (by omega)).trans (zcd30 h)
theorem zcd32 {k : Nat} (h : 193 ≤ k) : zcs32.2 k = .inr (99, []) := (vau_ne (by omega)).trans (zcd31 h)
theorem zcd33 {k : Nat} (h : 193 ≤ k) : zcs33.2 k = .inr (99, []) := (vau_ne (by omega)).trans (zcd32 h)
theorem zcd34 {k : Nat} (h : 193 ≤ k) : zcs34.2 k = .inr (99, []) := (vau_ne (by omega)).trans (zcd33 h)
theorem zcd35 {k : Nat} (h : 193 ≤ k) : zcs35.2 k = .inr (99, []) := (vau_ne (by omega)).trans (zcd34 h)
theorem zcd36 {k : Nat} (h : 193 ≤ k) : zcs36.2 k = .inr (99, []) := (vau_ne (by omega)).trans (zcd35 h)
theorem zcd37 {k : Nat} (h : 193 ≤ k) : zcs37.2 k = .inr (99, []) := (vau_ne (by omega)).trans (zcd36 h)
theorem zcd38 {k : Nat} (h : 193 ≤ k) : zcs38.2 k = .inr (99, []) := (vau_ne (by omega)).trans (zcd37 h)
theorem zcd39 {k : Nat} (h : 193 ≤ k) : zcs39.2 k = .inr (99, []) := (vau_ne (by omega)).trans (zcd38 h)
theorem zcd40 {k : Nat} (h : 193 ≤ k) : zcs40.2 k = .inr (99, []) := (vau_ne (by omega)).trans (zcd39 h)
theorem zcd41 {k : Nat} (h : 193 ≤ k) : zcs41.2 k = .inr (99, []) := (vau_ne (by omega)).trans (zcd40 h)
theorem zcd42 {k : Nat} (h : 193 ≤ k) : zcs42.2 k = .inr (99, []) := (vau_ne (by omega)).trans (zcd41 h)
theorem zcd43 {k : Nat} (h : 193 ≤ k) : zcs43.2 k = .inr (99, []) := (vau_ne (by omega)).trans (zcd42 h)
theorem zcd44 {k : Nat} (h : 193 ≤ k) : zcs44.2 k = .inr (99, []) := (vau_ne (by omega)).trans (zcd43 h)
theorem zcd45 {k : Nat} (h : 193 ≤ k) : zcs45.2 k = .inr (99, []) := (vau_ne (by omega)).trans (zcd44 h)
theorem zcd46 {k : Nat} (h : 193 ≤ k) : zcs46.2 k = .inr (99, []) := (vau_ne (by omega)).trans (zcd45 h)
theorem zcd47 {k : Nat} (h : 193 ≤ k) : zcs47.2 k = .inr (99, []) := (vau_ne (by omega)).trans (zcd46 h)
theorem zcd48 {k : Nat} (h : 193 ≤ k) : zcs48.2 k = .inr (99, []) := (vau_ne (by omega)).trans (zcd47 h)
theorem zcd49 {k : Nat} (h : 193 ≤ k) : zcs49.2 k = .inr (99, []) := (vau_ne (by omega)).trans (zcd48 h)
theorem zcd50 {k : Nat} (h : 193 ≤ k) : zcs50.2 k = .inr (99, []) := (vau_ne (by omega)).trans (zcd49 h)
theorem zcd51 {k : Nat} (h : 193 ≤ k) : zcs51.2 k = .inr (99, []) := (vau_ne (by omega)).trans (zcd50 h)
theorem zcd52 {k : Nat} (h : 193 ≤ k) : zcs52.2 k = .inr (99, []) := (vau_ne (by omega)).trans (zcd51 h)
theorem zcd53 {k : Nat} (h : 193 ≤ k) : zcs53.2 k = .inr (99, []) := (vau_ne (by omega)).trans (zcd52 h)
theorem zcd54 {k : Nat} (h : 193 ≤ k) : zcs54.2 k = .inr (99, []) := (vau_ne (by omega)).trans (zcd53 h)
theorem zcd55 {k : Nat} (h : 193 ≤ k) : zcs55.2 k = .inr (99, []) := (vau_ne (by omega)).trans (zcd54 h)
theorem zcd56 {k : Nat} (h : 193 ≤ k) : zcs56.2 k = .inr (99, []) := (vau_ne (by omega)).trans (zcd55 h)
theorem zcd57 {k : Nat} (h : 193 ≤ k) : zcs57.2 k = .inr (99, []) := (vau_ne (by omega)).trans (zcd56 h)
theorem zcd58 {k : Nat} (h : 193 ≤ k) : zcs58.2 k = .inr (99, []) := (vau_ne (by omega)).trans (zcd57 h)
theorem zcd59 {k : Nat} (h : 193 ≤ k) : zcs59.2 k = .inr (99, []) := (vau_ne (by omega)).trans (zcd58 h)
theorem zcd60 {k : Nat} (h : 193 ≤ k) : zcs60.2 k = .inr (99, []) := (vau_ne (by omega)).trans (zcd59 h)
theorem zcd61 {k : Nat} (h : 193 ≤ k) : zcs61.2 k = .inr (99, []) := (vau_ne (by omega)).trans (zcd60 h)
theorem zcd62 {k : Nat} (h : 193 ≤ k) : zcs62.2 k = .inr (99, []) := (vau_ne (by omega)).trans (zcd61 h)
theorem zcd63 {k : Nat} (h : 193 ≤ k) : zcs63.2 k = .inr (99, []) := (vau_ne (by omega)).trans (zcd62 h)
theorem zcd64 {k : Nat} (h : 193 ≤ k) : zcs64.2 k = .inr (99, []) := (vau_ne (by omega)).trans (zcd63 h)
theorem zcd65 {k : Nat} (h : 193 ≤ k) : zcs65.2 k = .inr (99, []) := (vau_ne (by omega)).trans (zcd64 h)
theorem zcd66 {k : Nat} (h : 193 ≤ k) : zcs66.2 k = .inr (99, []) := (vau_ne (by omega)).trans (zcd65 h)
theorem zcd67 {k : Nat} (h : 193 ≤ k) : zcs67.2 k = .inr (99, []) := (vau_ne (by omega)).trans (zcd66 h)
theorem zcd68 {k : Nat} (h : 193 ≤ k) : zcs68.2 k = .inr (99, []) := (vau_ne (by omega)).trans (zcd67 h)
theorem zcd69 {k : Nat} (h : 193 ≤ k) : zcs69.2 k = .inr (99, []) := (vau_ne (by omega)).trans (zcd68 h)
theorem zcd70 {k : Nat} (h : 193 ≤ k) : zcs70.2 k = .inr (99, []) := (vau_ne (by omega)).trans (zcd69 h)
theorem zcd71 {k : Nat} (h : 193 ≤ k) : zcs71.2 k = .inr (99, []) := (vau_ne (by omega)).trans (zcd70 h)
theorem zcd72 {k : Nat} (h : 193 ≤ k) : zcs72.2 k = .inr (99, []) := (vau_ne (by omega)).trans (zcd71 h)
theorem zcd73 {k : Nat} (h : 193 ≤ k) : zcs73.2 k = .inr (99, []) := (vau_ne (by omega)).trans (zcd72 h)
theorem zcd74 {k : Nat} (h : 193 ≤ k) : zcs74.2 k = .inr (99, []) := (vau_ne (by omega)).trans (zcd73 h)
theorem zcd75 {k : Nat} (h : 193 ≤ k) : zcs75.2 k = .inr (99, []) := (vau_ne (by omega)).trans (zcd74 h)
theorem zcd76 {k : Nat} (h : 193 ≤ k) : zcs76.2 k = .inr (99, []) := (vau_ne (by omega)).trans (zcd75 h)
theorem zcd77 {k : Nat} (h : 193 ≤ k) : zcs77.2 k = .inr (99, []) := (vau_ne (by omega)).trans (zcd76 h)
theorem zcd78 {k : Nat} (h : 193 ≤ k) : zcs78.2 k = .inr (99, []) := (vau_ne (by omega)).trans (zcd77 h)
theorem zcd79 {k : Nat} (h : 193 ≤ k) : zcs79.2 k = .inr (99, []) := (vau_ne (by omega)).trans (zcd78 h)
theorem zcd80 {k : Nat} (h : 193 ≤ k) : zcs80.2 k = .inr (99, []) := (vau_ne (by omega)).trans (zcd79 h)
theorem zcd81 {k : Nat} (h : 193 ≤ k) : zcs81.2 k = .inr (99, []) := (vau_ne (by omega)).trans (zcd80 h)
theorem zcd82 {k : Nat} (h : 193 ≤ k) : zcs82.2 k = .inr (99, []) := (vau_ne (by omega)).trans (zcd81 h)
theorem zcd83 {k : Nat} (h : 193 ≤ k) : zcs83.2 k = .inr (99, []) := (vau_ne (by omega)).trans (zcd82 h)
theorem zcd84 {k : Nat} (h : 193 ≤ k) : zcs84.2 k = .inr (99, []) := (vau_ne (by omega)).trans (zcd83 h)
theorem zcd85 {k : Nat} (h : 193 ≤ k) : zcs85.2 k = .inr (99, []) := (vau_ne (by omega)).trans (zcd84 h)
theorem zcd86 {k : Nat} (h : 193 ≤ k) : zcs86.2 k = .inr (99, []) := (vau_ne (by omega)).trans (zcd85 h)
theorem zcd87 {k : Nat} (h : 193 ≤ k) : zcs87.2 k = .inr (99, []) := (vau_ne (by omega)).trans (zcd86 h)
theorem zcd88 {k : Nat} (h : 193 ≤ k) : zcs88.2 k = .inr (99, []) := (vau_ne (by omega)).trans (zcd87 h)
theorem zcd89 {k : Nat} (h : 193 ≤ k) : zcs89.2 k = .inr (99, []) := (vau_ne (by omega)).trans (zcd88 h)
theorem zcd90 {k : Nat} (h : 193 ≤ k) : zcs90.2 k = .inr (99, []) := (vau_ne (by omega)).trans (zcd89 h)
theorem zcd91 {k : Nat} (h : 193 ≤ k) : zcs91.2 k = .inr (99, []) := (vau_ne (by omega)).trans (zcd90 h)
theorem zcd92 {k : Nat} (h : 193 ≤ k) : zcs92.2 k = .inr (99, []) := (vau_ne (by omega)).trans (zcd91 h)
theorem zcd93 {k : Nat} (h : 193 ≤ k) : zcs93.2 k = .inr (99, []) := (vau_ne (by omega)).trans (zcd92 h)
theorem zcd94 {k : Nat} (h : 193 ≤ k) : zcs94.2 k = .inr (99, []) := (vau_ne (by omega)).trans (zcd93 h)
theorem zcd95 {k : Nat} (h : 193 ≤ k) : zcs95.2 k = .inr (99, []) := (vau_ne (by omega)).trans (zcd94 h)
theorem zcd96 {k : Nat} (h : 193 ≤ k) : zcs96.2 k = .inr (99, []) := (vau_ne (by omega)).trans (zcd95 h)
theorem zcd97 {k : Nat} (h : 193 ≤ k) : zcs97.2 k = .inr (99, []) := (vau_ne (by omega)).trans (zcd96 h)
theorem zcd98 {k : Nat} (h : 193 ≤ k) : zcs98.2 k = .inr (99, []) := (vau_ne (by omega)).trans (zcd97 h)
theorem zcd99 {k : Nat} (h : 193 ≤ k) : zcs99.2 k = .inr (99, []) := (vau_ne (by omega)).trans (zcd98 h)
theorem zcd100 {k : Nat} (h : 193 ≤ k) : zcs100.2 k = .inr (99, []) := (vau_ne (by omega)).trans (zcd99 h)
theorem zcd101 {k : Nat} (h : 193 ≤ k) : zcs101.2 k = .inr (99, []) := (vau_ne (by omega)).trans (zcd100 h)
theorem zcd102 {k : Nat} (h : 193 ≤ k) : zcs102.2 k = .inr (99, []) := (vau_ne (by omega)).trans (zcd101 h)
theorem zcd103 {k : Nat} (h : 193 ≤ k) : zcs103.2 k = .inr (99, []) := (vau_ne (by omega)).trans (zcd102 h)
theorem zcd104 {k : Nat} (h : 193 ≤ k) : zcs104.2 k = .inr (99, []) := (vau_ne (by omega)).trans (zcd103 h)
theorem zcd105 {k : Nat} (h : 193 ≤ k) : zcs105.2 k = .inr (99, []) := (vau_ne (by omega)).trans (zcd104 h)
theorem zcd106 {k : Nat} (h : 193 ≤ k) : zcs106.2 k = .inr (99, []) := (vau_ne (by omega)).trans (zcd105 h)
theorem zcd107 {k : Nat} (h : 193 ≤ k) : zcs107.2 k = .inr (99, []) := (vau_ne (by omega)).trans (zcd106 h)
theorem zcd108 {k : Nat} (h : 193 ≤ k) : zcs108.2 k = .inr (99, []) := (vau_ne (by omega)).trans (zcd107 h)
theorem zcd109 {k : Nat} (h : 193 ≤ k) : zcs109.2 k = .inr (99, []) := (vau_ne (by omega)).trans (zcd108 h)
theorem zcd110 {k : Nat} (h : 193 ≤ k) : zcs110.2 k = .inr (99, []) := (vau_ne (by omega)).trans (zcd109 h)
theorem zcd111 {k : Nat} (h : 193 ≤ k) : zcs111.2 k = .inr (99, []) := (vau_ne (by omega)).trans (zcd110 h)
theorem zcd112 {k : Nat} (h : 193 ≤ k) : zcs112.2 k = .inr (99, []) := (vau_ne (by omega)).trans (zcd111 h)
theorem zcd113 {k : Nat} (h : 193 ≤ k) : zcs113.2 k = .inr (99, []) := (vau_ne (by omega)).trans (zcd112 h)
theorem zcd114 {k : Nat} (h : 193 ≤ k) : zcs114.2 k = .inr (99, []) := (vau_ne (by omega)).trans (zcd113 h)
theorem zcd115 {k : Nat} (h : 193 ≤ k) : zcs115.2 k = .inr (99, []) := (vau_ne (by omega)).trans (zcd114 h)
theorem zcd116 {k : Nat} (h : 193 ≤ k) : zcs116.2 k = .inr (99, []) := (vau_ne (by omega)).trans (zcd115 h)
theorem zcd117 {k : Nat} (h : 193 ≤ k) : zcs117.2 k = .inr (99, []) := (vau_ne (by omega)).trans (zcd116 h)
theorem zcd118 {k : Nat} (h : 193 ≤ k) : zcs118.2 k = .inr (99, []) := (vau_ne (by omega)).trans (zcd117 h)
theorem zcd119 {k : Nat} (h : 193 ≤ k) : zcs119.2 k = .inr (99, []) := (vau_ne (by omega)).trans (zcd118 h)
theorem zcd120 {k : Nat} (h : 193 ≤ k) : zcs120.2 k = .inr (99, []) := (vau_ne (by omega)).trans (zcd119 h)
theorem zcd121 {k : Nat} (h : 193 ≤ k) : zcs121.2 k = .inr (99, []) := (vau_ne (by omega)).trans (zcd120 h)
theorem zcd122 {k : Nat} (h : 193 ≤ k) : zcs122.2 k = .inr (99, []) := (vau_ne (by omega)).trans (zcd121 h)
theorem zcd123 {k : Nat} (h : 193 ≤ k) : zcs123.2 k = .inr (99, []) := (vau_ne (by omega)).trans (zcd122 h)
theorem zcd124 {k : Nat} (h : 193 ≤ k) : zcs124.2 k = .inr (99, []) := (vau_ne (by omega)).trans (zcd123 h)
theorem zcd125 {k : Nat} (h : 193 ≤ k) : zcs125.2 k = .inr (99, []) := (vau_ne (by omega)).trans (zcd124 h)
theorem zcd126 {k : Nat} (h : 193 ≤ k) : zcs126.2 k = .inr (99, []) := (vau_ne (by omega)).trans (zcd125 h)
theorem zcd127 {k : Nat} (h : 193 ≤ k) : zcs127.2 k = .inr (99, []) := (vau_ne (by omega)).trans (zcd126 h)
theorem zcd128 {k : Nat} (h : 193 ≤ k) : zcs128.2 k = .inr (99, []) := (vau_ne (by omega)).trans (zcd127 h)
theorem zcd129 {k : Nat} (h : 193 ≤ k) : zcs129.2 k = .inr (99, []) := (vau_ne (by omega)).trans (zcd128 h)
theorem zcd130 {k : Nat} (h : 193 ≤ k) : zcs130.2 k = .inr (99, []) := (vau_ne (by omega)).trans (zcd129 h)
theorem zcd131 {k : Nat} (h : 193 ≤ k) : zcs131.2 k = .inr (99, []) := (vau_ne (by omega)).trans (zcd130 h)
theorem zcd132 {k : Nat} (h : 193 ≤ k) : zcs132.2 k = .inr (99, []) := (vau_ne (by omega)).trans (zcd131 h)
theorem zcd133 {k : Nat} (h : 193 ≤ k) : zcs133.2 k = .inr (99, []) := (vau_ne (by omega)).trans (zcd132 h)
theorem zcd134 {k : Nat} (h : 193 ≤ k) : zcs134.2 k = .inr (99, []) := (vau_ne (by omega)).trans (zcd133 h)
theorem zcd135 {k : Nat} (h : 193 ≤ k) : zcs135.2 k = .inr (99, []) := (vau_ne (by omega)).trans (zcd134 h)
theorem zcd136 {k : Nat} (h : 193 ≤ k) : zcs136.2 k = .inr (99, []) := (vau_ne (by omega)).trans (zcd135 h)
theorem zcd137 {k : Nat} (h : 193 ≤ k) : zcs137.2 k = .inr (99, []) := (vau_ne (by omega)).trans (zcd136 h)
theorem zcd138 {k : Nat} (h : 193 ≤ k) : zcs138.2 k = .inr (99, []) := (vau_ne (by omega)).trans (zcd137 h)
theorem zcd139 {k : Nat} (h : 193 ≤ k) : zcs139.2 k = .inr (99, []) := (vau_ne (by omega)).trans (zcd138 h)
theorem zcd140 {k : Nat} (h : 193 ≤ k) : zcs140.2 k = .inr (99, []) := (vau_ne (by omega)).trans (zcd139 h)
theorem zcd141 {k : Nat} (h : 193 ≤ k) : zcs141.2 k = .inr (99, []) := (vau_ne (by omega)).trans (zcd140 h)
theorem zcd142 {k : Nat} (h : 193 ≤ k) : zcs142.2 k = .inr (99, []) := (vau_ne (by omega)).trans (zcd141 h)
theorem zcd143 {k : Nat} (h : 193 ≤ k) : zcs143.2 k = .inr (99, []) := (vau_ne (by omega)).trans (zcd142 h)
theorem zcd144 {k : Nat} (h : 193 ≤ k) : zcs144.2 k = .inr (99, []) := (vau_ne (by omega)).trans (zcd143 h)
theorem zcd145 {k : Nat} (h : 193 ≤ k) : zcs145.2 k = .inr (99, []) := (vau_ne (by omega)).trans (zcd144 h)
theorem zcd146 {k : Nat} (h : 193 ≤ k) : zcs146.2 k = .inr (99, []) := (vau_ne (by omega)).trans (zcd145 h)
theorem zcd147 {k : Nat} (h : 193 ≤ k) : zcs147.2 k = .inr (99, []) := (vau_ne (by omega)).trans (zcd146 h)
theorem zcd148 {k : Nat} (h : 193 ≤ k) : zcs148.2 k = .inr (99, []) := (vau_ne (by omega)).trans (zcd147 h)
theorem zcd149 {k : Nat} (h : 193 ≤ k) : zcs149.2 k = .inr (99, []) := (vau_ne (by omega)).trans (zcd148 h)
theorem zcd150 {k : Nat} (h : 193 ≤ k) : zcs150.2 k = .inr (99, []) := (vau_ne (by omega)).trans (zcd149 h)
theorem zcd151 {k : Nat} (h : 193 ≤ k) : zcs151.2 k = .inr (99, []) := (vau_ne (by omega)).trans (zcd150 h)
theorem zcd152 {k : Nat} (h : 193 ≤ k) : zcs152.2 k = .inr (99, []) := (vau_ne (by omega)).trans (zcd151 h)
theorem zcd153 {k : Nat} (h : 193 ≤ k) : zcs153.2 k = .inr (99, []) := (vau_ne (by omega)).trans (zcd152 h)
theorem zcd154 {k : Nat} (h : 193 ≤ k) : zcs154.2 k = .inr (99, []) := (vau_ne (by omega)).trans (zcd153 h)
theorem zcd155 {k : Nat} (h : 193 ≤ k) : zcs155.2 k = .inr (99, []) := (vau_ne (by omega)).trans (zcd154 h)
theorem zcd156 {k : Nat} (h : 193 ≤ k) : zcs156.2 k = .inr (99, []) := (vau_ne (by omega)).trans (zcd155 h)
theorem zcd157 {k : Nat} (h : 193 ≤ k) : zcs157.2 k = .inr (99, []) := (vau_ne (by omega)).trans (zcd156 h)
theorem zcd158 {k : Nat} (h : 193 ≤ k) : zcs158.2 k = .inr (99, []) := (vau_ne (by omega)).trans (zcd157 h)
theorem zcd159 {k : Nat} (h : 193 ≤ k) : zcs159.2 k = .inr (99, []) := (vau_ne (by omega)).trans (zcd158 h)
theorem zcd160 {k : Nat} (h : 193 ≤ k) : zcs160.2 k = .inr (99, []) := (vau_ne (by omega)).trans (zcd159 h)
theorem zcd161 {k : Nat} (h : 193 ≤ k) : zcs161.2 k = .inr (99, []) := (vau_ne (by omega)).trans (zcd160 h)
theorem zcd162 {k : Nat} (h : 193 ≤ k) : zcs162.2 k = .inr (99, []) := (vau_ne (by omega)).trans (zcd161 h)
theorem zcd163 {k : Nat} (h : 193 ≤ k) : zcs163.2 k = .inr (99, []) := (vau_ne (by omega)).trans (zcd162 h)
theorem zcd164 {k : Nat} (h : 193 ≤ k) : zcs164.2 k = .inr (99, []) := (vau_ne (by omega)).trans (zcd163 h)
theorem zcd165 {k : Nat} (h : 193 ≤ k) : zcs165.2 k = .inr (99, []) := (vau_ne (by omega)).trans (zcd164 h)
theorem zcd166 {k : Nat} (h : 193 ≤ k) : zcs166.2 k = .inr (99, []) := (vau_ne (by omega)).trans (zcd165 h)
theorem zcd167 {k : Nat} (h : 193 ≤ k) : zcs167.2 k = .inr (99, []) := (vau_ne (by omega)).trans (zcd166 h)
theorem zcd168 {k : Nat} (h : 193 ≤ k) : zcs168.2 k = .inr (99, []) := (vau_ne (by omega)).trans (zcd167 h)
theorem zcd169 {k : Nat} (h : 193 ≤ k) : zcs169.2 k = .inr (99, []) := (vau_ne (by omega)).trans (zcd168 h)
theorem zcd170 {k : Nat} (h : 193 ≤ k) : zcs170.2 k = .inr (99, []) := (vau_ne (by omega)).trans (zcd169 h)
theorem zcd171 {k : Nat} (h : 193 ≤ k) : zcs171.2 k = .inr (99, []) := (vau_ne (by omega)).trans (zcd170 h)
theorem zcd172 {k : Nat} (h : 193 ≤ k) : zcs172.2 k = .inr (99, []) := (vau_ne (by omega)).trans (zcd171 h)
theorem zcd173 {k : Nat} (h : 193 ≤ k) : zcs173.2 k = .inr (99, []) := (vau_ne (by omega)).trans (zcd172 h)
theorem zcd174 {k : Nat} (h : 193 ≤ k) : zcs174.2 k = .inr (99, []) := (vau_ne (by omega)).trans (zcd173 h)
theorem zcd175 {k : Nat} (h : 193 ≤ k) : zcs175.2 k = .inr (99, []) := (vau_ne (by omega)).trans (zcd174 h)
theorem zcd176 {k : Nat} (h : 193 ≤ k) : zcs176.2 k = .inr (99, []) := (vau_ne (by omega)).trans (zcd175 h)
theorem zcd177 {k : Nat} (h : 193 ≤ k) : zcs177.2 k = .inr (99, []) := (vau_ne (by omega)).trans (zcd176 h)
theorem zcd178 {k : Nat} (h : 193 ≤ k) : zcs178.2 k = .inr (99, []) := (vau_ne (by omega)).trans (zcd177 h)
theorem zcd179 {k : Nat} (h : 193 ≤ k) : zcs179.2 k = .inr (99, []) := (vau_ne (by omega)).trans (zcd178 h)
theorem zcd180 {k : Nat} (h : 193 ≤ k) : zcs180.2 k = .inr (99, []) := (vau_ne (by omega)).trans (zcd179 h)
theorem zcd181 {k : Nat} (h : 193 ≤ k) : zcs181.2 k = .inr (99, []) := (vau_ne (by omega)).trans (zcd180 h)
theorem zcd182 {k : Nat} (h : 193 ≤ k) : zcs182.2 k = .inr (99, []) := (vau_ne (by omega)).trans (zcd181 h)
theorem zcd183 {k : Nat} (h : 193 ≤ k) : zcs183.2 k = .inr (99, []) := (vau_ne (by omega)).trans (zcd182 h)
theorem zcd184 {k : Nat} (h : 193 ≤ k) : zcs184.2 k = .inr (99, []) := (vau_ne (by omega)).trans (zcd183 h)
theorem zcd185 {k : Nat} (h : 193 ≤ k) : zcs185.2 k = .inr (99, []) := (vau_ne (by omega)).trans (zcd184 h)
theorem zcd186 {k : Nat} (h : 193 ≤ k) : zcs186.2 k = .inr (99, []) := (vau_ne (by omega)).trans (zcd185 h)
theorem zcd187 {k : Nat} (h : 193 ≤ k) : zcs187.2 k = .inr (99, []) := (vau_ne (by omega)).trans (zcd186 h)
theorem zcd188 {k : Nat} (h : 193 ≤ k) : zcs188.2 k = .inr (99, []) := (vau_ne (by omega)).trans (zcd187 h)
theorem zcd189 {k : Nat} (h : 193 ≤ k) : zcs189.2 k = .inr (99, []) := (vau_ne (by omega)).trans (zcd188 h)
theorem zcd190 {k : Nat} (h : 193 ≤ k) : zcs190.2 k = .inr (99, []) := (vau_ne (by omega)).trans (zcd189 h)
theorem zcd191 {k : Nat} (h : 193 ≤ k) : zcs191.2 k = .inr (99, []) := (vau_ne (by omega)).trans (zcd190 h)
theorem zcd192 {k : Nat} (h : 193 ≤ k) : zcs192.2 k = .inr (99, []) := (vau_ne (by omega)).trans (zcd191 h)
theorem zcd193 {k : Nat} (h : 193 ≤ k) : zcs193.2 k = .inr (99, []) := (vau_ne (by omega)).trans (zcd192 h)
theorem zcd194 {k : Nat} (h : 193 ≤ k) : zcs194.2 k = .inr (99, []) := (vau_ne (by omega)).trans (zcd193 h)
theorem zcd195 {k : Nat} (h : 193 ≤ k) : zcs195.2 k = .inr (99, []) := (vau_ne (by omega)).trans (zcd194 h)
theorem zcd196 {k : Nat} (h : 193 ≤ k) : zcs196.2 k = .inr (99, []) := (vau_ne (by omega)).trans (zcd195 h)
theorem zcd197 {k : Nat} (h : 193 ≤ k) : zcs197.2 k = .inr (99, []) := (vau_ne (by omega)).trans (zcd196 h)
theorem zcd198 {k : Nat} (h : 193 ≤ k) : zcs198.2 k = .inr (99, []) := (vau_ne (by omega)).trans (zcd197 h)
theorem zcd199 {k : Nat} (h : 193 ≤ k) : zcs199.2 k = .inr (99, []) := (vau_ne (by omega)).trans (zcd198 h)
theorem zcd200 {k : Nat} (h : 193 ≤ k) : zcs200.2 k = .inr (99, []) := (vau_ne (by omega)).trans (zcd199 h)
theorem zcd201 {k : Nat} (h : 193 ≤ k) : zcs201.2 k = .inr (99, []) := (vau_ne (by omega)).trans (zcd200 h)
theorem zcd202 {k : Nat} (h : 193 ≤ k) : zcs202.2 k = .inr (99, []) := (vau_ne (by omega)).trans (zcd201 h)
theorem zcd203 {k : Nat} (h : 193 ≤ k) : zcs203.2 k = .inr (99, []) := (vau_ne (by omega)).trans (zcd202 h)
theorem zcd204 {k : Nat} (h : 193 ≤ k) : zcs204.2 k = .inr (99, []) := (vau_ne (by omega)).trans (zcd203 h)
theorem zcd205 {k : Nat} (h : 193 ≤ k) : zcs205.2 k = .inr (99, []) := (vau_ne (by omega)).trans (zcd204 h)
theorem zcd206 {k : Nat} (h : 193 ≤ k) : zcs206.2 k = .inr (99, []) := (vau_ne (by omega)).trans (zcd205 h)
theorem zcd207 {k : Nat} (h : 193 ≤ k) : zcs207.2 k = .inr (99, []) := (vau_ne (by omega)).trans (zcd206 h)
theorem zcd208 {k : Nat} (h : 193 ≤ k) : zcs208.2 k = .inr (99, []) := (vau_ne (by omega)).trans (zcd207 h)
theorem zcd209 {k : Nat} (h : 193 ≤ k) : zcs209.2 k = .inr (99, []) := (vau_ne (by omega)).trans (zcd208 h)
theorem zcd210 {k : Nat} (h : 193 ≤ k) : zcs210.2 k = .inr (99, []) := (vau_ne (by omega)).trans (zcd209 h)
theorem zcd211 {k : Nat} (h : 193 ≤ k) : zcs211.2 k = .inr (99, []) := (vau_ne (by omega)).trans (zcd210 h)
theorem zcd212 {k : Nat} (h : 193 ≤ k) : zcs212.2 k = .inr (99, []) := (vau_ne (by omega)).trans (zcd211 h)
theorem zcd213 {k : Nat} (h : 193 ≤ k) : zcs213.2 k = .inr (99, []) := (vau_ne (by omega)).trans (zcd212 h)
theorem zcd214 {k : Nat} (h : 193 ≤ k) : zcs214.2 k = .inr (99, []) := (vau_ne (by omega)).trans (zcd213 h)
theorem zcd215 {k : Nat} (h : 193 ≤ k) : zcs215.2 k = .inr (99, []) := (vau_ne (by omega)).trans (zcd214 h)
theorem zcd216 {k : Nat} (h : 193 ≤ k) : zcs216.2 k = .inr (99, []) := (vau_ne (by omega)).trans (zcd215 h)
theorem zcd217 {k : Nat} (h : 193 ≤ k) : zcs217.2 k = .inr (99, []) := (vau_ne (by omega)).trans (zcd216 h)
theorem zcd218 {k : Nat} (h : 193 ≤ k) : zcs218.2 k = .inr (99, []) := (vau_ne (by omega)).trans (zcd217 h)
theorem zcd219 {k : Nat} (h : 193 ≤ k) : zcs219.2 k = .inr (99, []) := (vau_ne (by omega)).trans (zcd218 h)
theorem zcd220 {k : Nat} (h : 193 ≤ k) : zcs220.2 k = .inr (99, []) := (vau_ne (by omega)).trans (zcd219 h)
theorem zcd221 {k : Nat} (h : 193 ≤ k) : zcs221.2 k = .inr (99, []) := (vau_ne (by omega)).trans (zcd220 h)
theorem zcd222 {k : Nat} (h : 193 ≤ k) : zcs222.2 k = .inr (99, []) := (vau_ne (by omega)).trans (zcd221 h)
theorem zcd223 {k : Nat} (h : 193 ≤ k) : zcs223.2 k = .inr (99, []) := (vau_ne (by omega)).trans (zcd222 h)
theorem zcd224 {k : Nat} (h : 193 ≤ k) : zcs224.2 k = .inr (99, []) := (vau_ne (by omega)).trans (zcd223 h)
theorem zcd225 {k : Nat} (h : 193 ≤ k) : zcs225.2 k = .inr (99, []) := (vau_ne (by omega)).trans (zcd224 h)
theorem zcd226 {k : Nat} (h : 193 ≤ k) : zcs226.2 k = .inr (99, []) := (vau_ne (by omega)).trans (zcd225 h)
theorem zcd227 {k : Nat} (h : 193 ≤ k) : zcs227.2 k = .inr (99, []) := (vau_ne (by omega)).trans (zcd226 h)
theorem zcd228 {k : Nat} (h : 193 ≤ k) : zcs228.2 k = .inr (99, []) := (vau_ne (by omega)).trans (zcd227 h)
theorem zcd229 {k : Nat} (h : 193 ≤ k) : zcs229.2 k = .inr (99, []) := (vau_ne (by omega)).trans (zcd228 h)
theorem zcd230 {k : Nat} (h : 193 ≤ k) : zcs230.2 k = .inr (99, []) := (vau_ne (by omega)).trans (zcd229 h)
theorem zcd231 {k : Nat} (h : 193 ≤ k) : zcs231.2 k = .inr (99, []) := (vau_ne (by omega)).trans (zcd230 h)
theorem zcd232 {k : Nat} (h : 193 ≤ k) : zcs232.2 k = .inr (99, []) := (vau_ne (by omega)).trans (zcd231 h)
theorem zcd233 {k : Nat} (h : 193 ≤ k) : zcs233.2 k = .inr (99, []) := (vau_ne (by omega)).trans (zcd232 h)
theorem zcd234 {k : Nat} (h : 193 ≤ k) : zcs234.2 k = .inr (99, []) := (vau_ne (by omega)).trans (zcd233 h)
theorem zcd235 {k : Nat} (h : 193 ≤ k) : zcs235.2 k = .inr (99, []) := (vau_ne (by omega)).trans (zcd234 h)
theorem zcd236 {k : Nat} (h : 193 ≤ k) : zcs236.2 k = .inr (99, []) := (vau_ne (by omega)).trans (zcd235 h)
theorem zcd237 {k : Nat} (h : 193 ≤ k) : zcs237.2 k = .inr (99, []) := (vau_ne (by omega)).trans (zcd236 h)
theorem zcd238 {k : Nat} (h : 193 ≤ k) : zcs238.2 k = .inr (99, []) := (vau_ne (by omega)).trans (zcd237 h)
theorem zcd239 {k : Nat} (h : 193 ≤ k) : zcs239.2 k = .inr (99, []) := (vau_ne (by omega)).trans (zcd238 h)
theorem zcd240 {k : Nat} (h : 193 ≤ k) : zcs240.2 k = .inr (99, []) := (vau_ne (by omega)).trans (zcd239 h)
theorem zcd241 {k : Nat} (h : 193 ≤ k) : zcs241.2 k = .inr (99, []) := (vau_ne (by omega)).trans (zcd240 h)
theorem zcd242 {k : Nat} (h : 193 ≤ k) : zcs242.2 k = .inr (99, []) := (vau_ne (by omega)).trans (zcd241 h)
theorem zcd243 {k : Nat} (h : 193 ≤ k) : zcs243.2 k = .inr (99, []) := (vau_ne (by omega)).trans (zcd242 h)
theorem zcd244 {k : Nat} (h : 193 ≤ k) : zcs244.2 k = .inr (99, []) := (vau_ne (by omega)).trans (zcd243 h)
theorem zcd245 {k : Nat} (h : 193 ≤ k) : zcs245.2 k = .inr (99, []) := (vau_ne (by omega)).trans (zcd244 h)
theorem zcd246 {k : Nat} (h : 193 ≤ k) : zcs246.2 k = .inr (99, []) := (vau_ne (by omega)).trans (zcd245 h)
theorem zcd247 {k : Nat} (h : 193 ≤ k) : zcs247.2 k = .inr (99, []) := (vau_ne (by omega)).trans (zcd246 h)
theorem zcd248 {k : Nat} (h : 193 ≤ k) : zcs248.2 k = .inr (99, []) := (vau_ne (by omega)).trans (zcd247 h)
theorem zcd249 {k : Nat} (h : 193 ≤ k) : zcs249.2 k = .inr (99, []) := (vau_ne (by omega)).trans (zcd248 h)
theorem zcd250 {k : Nat} (h : 193 ≤ k) : zcs250.2 k = .inr (99, []) := (vau_ne (by omega)).trans (zcd249 h)
theorem zcd251 {k : Nat} (h : 193 ≤ k) : zcs251.2 k = .inr (99, []) := (vau_ne (by omega)).trans (zcd250 h)
theorem zcd252 {k : Nat} (h : 193 ≤ k) : zcs252.2 k = .inr (99, []) := (vau_ne (by omega)).trans (zcd251 h)
theorem zcd253 {k : Nat} (h : 193 ≤ k) : zcs253.2 k = .inr (99, []) := (vau_ne (by omega)).trans (zcd252 h)
theorem zcd254 {k : Nat} (h : 193 ≤ k) : zcs254.2 k = .inr (99, []) := (vau_ne (by omega)).trans (zcd253 h)
theorem zcd255 {k : Nat} (h : 193 ≤ k) : zcs255.2 k = .inr (99, []) := (vau_ne (by omega)).trans (zcd254 h)
theorem zcd256 {k : Nat} (h : 193 ≤ k) : zcs256.2 k = .inr (99, []) := (vau_ne (by omega)).trans (zcd255 h)
theorem zcd257 {k : Nat} (h : 193 ≤ k) : zcs257.2 k = .inr (99, []) := (vau_ne (by omega)).trans (zcd256 h)
theorem zcd258 {k : Nat} (h : 193 ≤ k) : zcs258.2 k = .inr (99, []) := (vau_ne (by omega)).trans (zcd257 h)
theorem zcd259 {k : Nat} (h : 193 ≤ k) : zcs259.2 k = .inr (99, []) := (vau_ne (by omega)).trans (zcd258 h)
theorem zcd260 {k : Nat} (h : 193 ≤ k) : zcs260.2 k = .inr (99, []) := (vau_ne (by omega)).trans (zcd259 h)
theorem zcd261 {k : Nat} (h : 193 ≤ k) : zcs261.2 k = .inr (99, []) := (vau_ne (by omega)).trans (zcd260 h)
theorem zcd262 {k : Nat} (h : 193 ≤ k) : zcs262.2 k = .inr (99, []) := (vau_ne (by omega)).trans (zcd261 h)
theorem zcd263 {k : Nat} (h : 193 ≤ k) : zcs263.2 k = .inr (99, []) := (vau_ne (by omega)).trans (zcd262 h)
theorem zcd264 {k : Nat} (h : 193 ≤ k) : zcs264.2 k = .inr (99, []) := (vau_ne (by omega)).trans (zcd263 h)
theorem zcd265 {k : Nat} (h : 193 ≤ k) : zcs265.2 k = .inr (99, []) := (vau_ne (by omega)).trans (zcd264 h)
theorem zcd266 {k : Nat} (h : 193 ≤ k) : zcs266.2 k = .inr (99, []) := (vau_ne (by omega)).trans (zcd265 h)
theorem zcd267 {k : Nat} (h : 193 ≤ k) : zcs267.2 k = .inr (99, []) := (vau_ne (by omega)).trans (zcd266 h)
theorem zcd268 {k : Nat} (h : 193 ≤ k) : zcs268.2 k = .inr (99, []) := (vau_ne (by omega)).trans (zcd267 h)
theorem zcd269 {k : Nat} (h : 193 ≤ k) : zcs269.2 k = .inr (99, []) := (vau_ne (by omega)).trans (zcd268 h)
theorem zcd270 {k : Nat} (h : 193 ≤ k) : zcs270.2 k = .inr (99, []) := (vau_ne (by omega)).trans (zcd269 h)
theorem zcd271 {k : Nat} (h : 193 ≤ k) : zcs271.2 k = .inr (99, []) := (vau_ne (by omega)).trans (zcd270 h)
theorem zcd272 {k : Nat} (h : 193 ≤ k) : zcs272.2 k = .inr (99, []) := (vau_ne (by omega)).trans (zcd271 h)
theorem zcd273 {k : Nat} (h : 193 ≤ k) : zcs273.2 k = .inr (99, []) := (vau_ne (by omega)).trans (zcd272 h)
theorem zcd274 {k : Nat} (h : 193 ≤ k) : zcs274.2 k = .inr (99, []) := (vau_ne (by omega)).trans (zcd273 h)
theorem zcd275 {k : Nat} (h : 193 ≤ k) : zcs275.2 k = .inr (99, []) := (vau_ne (by omega)).trans (zcd274 h)
theorem zcd276 {k : Nat} (h : 193 ≤ k) : zcs276.2 k = .inr (99, []) := (vau_ne (by omega)).trans (zcd275 h)
theorem zcd277 {k : Nat} (h : 193 ≤ k) : zcs277.2 k = .inr (99, []) := (vau_ne (by omega)).trans (zcd276 h)
theorem zcd278 {k : Nat} (h : 193 ≤ k) : zcs278.2 k = .inr (99, []) := (vau_ne (by omega)).trans (zcd277 h)
theorem zcd279 {k : Nat} (h : 193 ≤ k) : zcs279.2 k = .inr (99, []) := (vau_ne (by omega)).trans (zcd278 h)
theorem zcd280 {k : Nat} (h : 193 ≤ k) : zcs280.2 k = .inr (99, []) := (vau_ne (by omega)).trans (zcd279 h)
theorem zcd281 {k : Nat} (h : 193 ≤ k) : zcs281.2 k = .inr (99, []) := (vau_ne (by omega)).trans (zcd280 h)
theorem zcd282 {k : Nat} (h : 193 ≤ k) : zcs282.2 k = .inr (99, []) := (vau_ne (by omega)).trans (zcd281 h)
theorem zcd283 {k : Nat} (h : 193 ≤ k) : zcs283.2 k = .inr (99, []) := (vau_ne (by omega)).trans (zcd282 h)
theorem zcd284 {k : Nat} (h : 193 ≤ k) : zcs284.2 k = .inr (99, []) := (vau_ne (by omega)).trans (zcd283 h)
theorem zcd285 {k : Nat} (h : 193 ≤ k) : zcs285.2 k = .inr (99, []) := (vau_ne (by omega)).trans (zcd284 h)
theorem zcd286 {k : Nat} (h : 193 ≤ k) : zcs286.2 k = .inr (99, []) := (vau_ne (by omega)).trans (zcd285 h)
theorem zcd287 {k : Nat} (h : 193 ≤ k) : zcs287.2 k = .inr (99, []) := (vau_ne (by omega)).trans (zcd286 h)
theorem zcd288 {k : Nat} (h : 193 ≤ k) : zcs288.2 k = .inr (99, []) := (vau_ne (by omega)).trans (zcd287 h)
theorem zcd289 {k : Nat} (h : 193 ≤ k) : zcs289.2 k = .inr (99, []) := (vau_ne (by omega)).trans (zcd288 h)
theorem zcd290 {k : Nat} (h : 193 ≤ k) : zcs290.2 k = .inr (99, []) := (vau_ne (by omega)).trans (zcd289 h)
theorem zcd291 {k : Nat} (h : 193 ≤ k) : zcs291.2 k = .inr (99, []) := (vau_ne (by omega)).trans (zcd290 h)
theorem zcd292 {k : Nat} (h : 193 ≤ k) : zcs292.2 k = .inr (99, []) := (vau_ne (by omega)).trans (zcd291 h)
theorem zcd293 {k : Nat} (h : 193 ≤ k) : zcs293.2 k = .inr (99, []) := (vau_ne (by omega)).trans (zcd292 h)
theorem zcd294 {k : Nat} (h : 193 ≤ k) : zcs294.2 k = .inr (99, []) := (vau_ne (by omega)).trans (zcd293 h)
theorem zcd295 {k : Nat} (h : 193 ≤ k) : zcs295.2 k = .inr (99, []) := (vau_ne (by omega)).trans (zcd294 h)
theorem zcd296 {k : Nat} (h : 193 ≤ k) : zcs296.2 k = .inr (99, []) := (vau_ne (by omega)).trans (zcd295 h)
theorem zcd297 {k : Nat} (h : 193 ≤ k) : zcs297.2 k = .inr (99, []) := (vau_ne (by omega)).trans (zcd296 h)
theorem zcd298 {k : Nat} (h : 193 ≤ k) : zcs298.2 k = .inr (99, []) := (vau_ne (by omega)).trans (zcd297 h)
theorem zcd299 {k : Nat} (h : 193 ≤ k) : zcs299.2 k = .inr (99, []) := (vau_ne (by omega)).trans (zcd298 h)
theorem zcd300 {k : Nat} (h : 193 ≤ k) : zcs300.2 k = .inr (99, []) := (vau_ne (by omega)).trans (zcd299 h)
theorem zcd301 {k : Nat} (h : 193 ≤ k) : zcs301.2 k = .inr (99, []) := (vau_ne (by omega)).trans (zcd300 h)
theorem zcd302 {k : Nat} (h : 193 ≤ k) : zcs302.2 k = .inr (99, []) := (vau_ne (by omega)).trans (zcd301 h)
theorem zcd303 {k : Nat} (h : 193 ≤ k) : zcs303.2 k = .inr (99, []) := (vau_ne (by omega)).trans (zcd302 h)
theorem zcd304 {k : Nat} (h : 193 ≤ k) : zcs304.2 k = .inr (99, []) := (vau_ne (by omega)).trans (zcd303 h)
theorem zcd305 {k : Nat} (h : 193 ≤ k) : zcs305.2 k = .inr (99, []) := (vau_ne (by omega)).trans (zcd304 h)
theorem zcd306 {k : Nat} (h : 193 ≤ k) : zcs306.2 k = .inr (99, []) := (vau_ne (by omega)).trans (zcd305 h)
theorem zcd307 {k : Nat} (h : 193 ≤ k) : zcs307.2 k = .inr (99, []) := (vau_ne (by omega)).trans (zcd306 h)
theorem zcd308 {k : Nat} (h : 193 ≤ k) : zcs308.2 k = .inr (99, []) := (vau_ne (by omega)).trans (zcd307 h)
theorem zcd309 {k : Nat} (h : 193 ≤ k) : zcs309.2 k = .inr (99, []) := (vau_ne (by omega)).trans (zcd308 h)
theorem zcd310 {k : Nat} (h : 193 ≤ k) : zcs310.2 k = .inr (99, []) := (vau_ne (by omega)).trans (zcd309 h)
theorem zcd311 {k : Nat} (h : 193 ≤ k) : zcs311.2 k = .inr (99, []) := (vau_ne (by omega)).trans (zcd310 h)
theorem zcd312 {k : Nat} (h : 193 ≤ k) : zcs312.2 k = .inr (99, []) := (vau_ne (by omega)).trans (zcd311 h)
theorem zcd313 {k : Nat} (h : 193 ≤ k) : zcs313.2 k = .inr (99, []) := (vau_ne (by omega)).trans (zcd312 h)
theorem zcd314 {k : Nat} (h : 193 ≤ k) : zcs314.2 k = .inr (99, []) := (vau_ne (by omega)).trans (zcd313 h)
theorem zcd315 {k : Nat} (h : 193 ≤ k) : zcs315.2 k = .inr (99, []) := (vau_ne (by omega)).trans (zcd314 h)
theorem zcd316 {k : Nat} (h : 193 ≤ k) : zcs316.2 k = .inr (99, []) := (vau_ne (by omega)).trans (zcd315 h)
theorem zcd317 {k : Nat} (h : 193 ≤ k) : zcs317.2 k = .inr (99, []) := (vau_ne (by omega)).trans (zcd316 h)
theorem zcd318 {k : Nat} (h : 193 ≤ k) : zcs318.2 k = .inr (99, []) := (vau_ne (by omega)).trans (zcd317 h)
theorem zcd319 {k : Nat} (h : 193 ≤ k) : zcs319.2 k = .inr (99, []) := (vau_ne (by omega)).trans (zcd318 h)
theorem zcd320 {k : Nat} (h : 193 ≤ k) : zcs320.2 k = .inr (99, []) := (vau_ne (by omega)).trans (zcd319 h)
theorem zcd321 {k : Nat} (h : 193 ≤ k) : zcs321.2 k = .inr (99, []) := (vau_ne (by omega)).trans (zcd320 h)
theorem zcd322 {k : Nat} (h : 193 ≤ k) : zcs322.2 k = .inr (99, []) := (vau_ne (by omega)).trans (zcd321 h)
theorem zcd323 {k : Nat} (h : 193 ≤ k) : zcs323.2 k = .inr (99, []) := (vau_ne (by omega)).trans (zcd322 h)
theorem zcd324 {k : Nat} (h : 193 ≤ k) : zcs324.2 k = .inr (99, []) := (vau_ne (by omega)).trans (zcd323 h)
theorem zcd325 {k : Nat} (h : 193 ≤ k) : zcs325.2 k = .inr (99, []) := (vau_ne (by omega)).trans (zcd324 h)
theorem zcd326 {k : Nat} (h : 193 ≤ k) : zcs326.2 k = .inr (99, []) := (vau_ne (by omega)).trans (zcd325 h)
theorem zcd327 {k : Nat} (h : 193 ≤ k) : zcs327.2 k = .inr (99, []) := (vau_ne (by omega)).trans (zcd326 h)
theorem zcd328 {k : Nat} (h : 193 ≤ k) : zcs328.2 k = .inr (99, []) := (vau_ne (by omega)).trans (zcd327 h)
theorem zcd329 {k : Nat} (h : 193 ≤ k) : zcs329.2 k = .inr (99, []) := (vau_ne (by omega)).trans (zcd328 h)
theorem zcd330 {k : Nat} (h : 193 ≤ k) : zcs330.2 k = .inr (99, []) := (vau_ne (by omega)).trans (zcd329 h)
theorem zcd331 {k : Nat} (h : 193 ≤ k) : zcs331.2 k = .inr (99, []) := (vau_ne (by omega)).trans (zcd330 h)
theorem zcd332 {k : Nat} (h : 193 ≤ k) : zcs332.2 k = .inr (99, []) := (vau_ne (by omega)).trans (zcd331 h)
theorem zcd333 {k : Nat} (h : 193 ≤ k) : zcs333.2 k = .inr (99, []) := (vau_ne (by omega)).trans (zcd332 h)
theorem zcd334 {k : Nat} (h : 193 ≤ k) : zcs334.2 k = .inr (99, []) := (vau_ne (by omega)).trans (zcd333 h)
theorem zcd335 {k : Nat} (h : 193 ≤ k) : zcs335.2 k = .inr (99, []) := (vau_ne (by omega)).trans (zcd334 h)
theorem zcd336 {k : Nat} (h : 193 ≤ k) : zcs336.2 k = .inr (99, []) := (vau_ne (by omega)).trans (zcd335 h)
theorem zcd337 {k : Nat} (h : 193 ≤ k) : zcs337.2 k = .inr (99, []) := (vau_ne (by omega)).trans (zcd336 h)
theorem zcd338 {k : Nat} (h : 193 ≤ k) : zcs338.2 k = .inr (99, []) := (vau_ne (by omega)).trans (zcd337 h)
theorem zcd339 {k : Nat} (h : 193 ≤ k) : zcs339.2 k = .inr (99, []) := (vau_ne (by omega)).trans (zcd338 h)
theorem zcd340 {k : Nat} (h : 193 ≤ k) : zcs340.2 k = .inr (99, []) := (vau_ne (by omega)).trans (zcd339 h)
theorem zcd341 {k : Nat} (h : 193 ≤ k) : zcs341.2 k = .inr (99, []) := (vau_ne (by omega)).trans (zcd340 h)
theorem zcd342 {k : Nat} (h : 193 ≤ k) : zcs342.2 k = .inr (99, []) := (vau_ne (by omega)).trans (zcd341 h)
theorem zcd343 {k : Nat} (h : 193 ≤ k) : zcs343.2 k = .inr (99, []) := (vau_ne (by omega)).trans (zcd342 h)
theorem zcd344 {k : Nat} (h : 193 ≤ k) : zcs344.2 k = .inr (99, []) := (vau_ne (by omega)).trans (zcd343 h)
theorem zcd345 {k : Nat} (h : 193 ≤ k) : zcs345.2 k = .inr (99, []) := (vau_ne (by omega)).trans (zcd344 h)
theorem zcd346 {k : Nat} (h : 193 ≤ k) : zcs346.2 k = .inr (99, []) := (vau_ne (by omega)).trans (zcd345 h)
theorem zcd347 {k : Nat} (h : 193 ≤ k) : zcs347.2 k = .inr (99, []) := (vau_ne (by omega)).trans (zcd346 h)
theorem zcd348 {k : Nat} (h : 193 ≤ k) : zcs348.2 k = .inr (99, []) := (vau_ne (by omega)).trans (zcd347 h)
theorem zcd349 {k : Nat} (h : 193 ≤ k) : zcs349.2 k = .inr (99, []) := (vau_ne (by omega)).trans (zcd348 h)
theorem zcd350 {k : Nat} (h : 193 ≤ k) : zcs350.2 k = .inr (99, []) := (vau_ne (by omega)).trans (zcd349 h)
theorem zcd351 {k : Nat} (h : 193 ≤ k) : zcs351.2 k = .inr (99, []) := (vau_ne (by omega)).trans (zcd350 h)
theorem zcd352 {k : Nat} (h : 193 ≤ k) : zcs352.2 k = .inr (99, []) := (vau_ne (by omega)).trans (zcd351 h)
theorem zcd353 {k : Nat} (h : 193 ≤ k) : zcs353.2 k = .inr (99, []) := (vau_ne (by omega)).trans (zcd352 h)
theorem zcd354 {k : Nat} (h : 193 ≤ k) : zcs354.2 k = .inr (99, []) := (vau_ne (by omega)).trans (zcd353 h)
theorem zcd355 {k : Nat} (h : 193 ≤ k) : zcs355.2 k = .inr (99, []) := (vau_ne (by omega)).trans (zcd354 h)
theorem zcd356 {k : Nat} (h : 193 ≤ k) : zcs356.2 k = .inr (99, []) := (vau_ne (by omega)).trans (zcd355 h)
theorem zcd357 {k : Nat} (h : 193 ≤ k) : zcs357.2 k = .inr (99, []) := (vau_ne (by omega)).trans (zcd356 h)
theorem zcd358 {k : Nat} (h : 193 ≤ k) : zcs358.2 k = .inr (99, []) := (vau_ne (by omega)).trans (zcd357 h)
theorem zcd359 {k : Nat} (h : 193 ≤ k) : zcs359.2 k = .inr (99, []) := (vau_ne (by omega)).trans (zcd358 h)
theorem zcd360 {k : Nat} (h : 193 ≤ k) : zcs360.2 k = .inr (99, []) := (vau_ne (by omega)).trans (zcd359 h)
theorem zcd361 {k : Nat} (h : 193 ≤ k) : zcs361.2 k = .inr (99, []) := (vau_ne (by omega)).trans (zcd360 h)
theorem zcd362 {k : Nat} (h : 193 ≤ k) : zcs362.2 k = .inr (99, []) := (vau_ne (by omega)).trans (zcd361 h)
theorem zcd363 {k : Nat} (h : 193 ≤ k) : zcs363.2 k = .inr (99, []) := (vau_ne (by omega)).trans (zcd362 h)
theorem zcd364 {k : Nat} (h : 193 ≤ k) : zcs364.2 k = .inr (99, []) := (vau_ne (by omega)).trans (zcd363 h)
theorem zcd365 {k : Nat} (h : 193 ≤ k) : zcs365.2 k = .inr (99, []) := (vau_ne (by omega)).trans (zcd364 h)
theorem zcd366 {k : Nat} (h : 193 ≤ k) : zcs366.2 k = .inr (99, []) := (vau_ne (by omega)).trans (zcd365 h)
theorem zcd367 {k : Nat} (h : 193 ≤ k) : zcs367.2 k = .inr (99, []) := (vau_ne (by omega)).trans (zcd366 h)
theorem zcd368 {k : Nat} (h : 193 ≤ k) : zcs368.2 k = .inr (99, []) := (vau_ne (by omega)).trans (zcd367 h)
theorem zcd369 {k : Nat} (h : 193 ≤ k) : zcs369.2 k = .inr (99, []) := (vau_ne (by omega)).trans (zcd368 h)
theorem zcd370 {k : Nat} (h : 193 ≤ k) : zcs370.2 k = .inr (99, []) := (vau_ne (by omega)).trans (zcd369 h)
theorem zcd371 {k : Nat} (h : 193 ≤ k) : zcs371.2 k = .inr (99, []) := (vau_ne (by omega)).trans (zcd370 h)
theorem zcd372 {k : Nat} (h : 193 ≤ k) : zcs372.2 k = .inr (99, []) := (vau_ne (by omega)).trans (zcd371 h)
theorem zcd373 {k : Nat} (h : 193 ≤ k) : zcs373.2 k = .inr (99, []) := (vau_ne (by omega)).trans (zcd372 h)
theorem zcd374 {k : Nat} (h : 193 ≤ k) : zcs374.2 k = .inr (99, []) := (vau_ne (by omega)).trans (zcd373 h)
theorem zcd375 {k : Nat} (h : 193 ≤ k) : zcs375.2 k = .inr (99, []) := (vau_ne (by omega)).trans (zcd374 h)
theorem zcd376 {k : Nat} (h : 193 ≤ k) : zcs376.2 k = .inr (99, []) := (vau_ne (by omega)).trans (zcd375 h)
theorem zcd377 {k : Nat} (h : 193 ≤ k) : zcs377.2 k = .inr (99, []) := (vau_ne (by omega)).trans (zcd376 h)
theorem zcd378 {k : Nat} (h : 193 ≤ k) : zcs378.2 k = .inr (99, []) := (vau_ne (by omega)).trans (zcd377 h)
theorem zcd379 {k : Nat} (h : 193 ≤ k) : zcs379.2 k = .inr (99, []) := (vau_ne (by omega)).trans (zcd378 h)
theorem zcd380 {k : Nat} (h : 193 ≤ k) : zcs380.2 k = .inr (99, []) := (vau_ne (by omega)).trans (zcd379 h)
theorem zcd381 {k : Nat} (h : 193 ≤ k) : zcs381.2 k = .inr (99, []) := (vau_ne (by omega)).trans (zcd380 h)
theorem zcd382 {k : Nat} (h : 193 ≤ k) : zcs382.2 k = .inr (99, []) := (vau_ne (by omega)).trans (zcd381 h)
theorem zcd383 {k : Nat} (h : 193 ≤ k) : zcs383.2 k = .inr (99, []) := (vau_ne (by omega)).trans (zcd382 h)
theorem zcd384 {k : Nat} (h : 193 ≤ k) : zcs384.2 k = .inr (99, []) := (vau_ne (by omega)).trans (zcd383 h)
theorem zcd385 {k : Nat} (h : 193 ≤ k) : zcs385.2 k = .inr (99, []) := (vau_ne (by omega)).trans (zcd384 h)
theorem zcd386 {k : Nat} (h : 193 ≤ k) : zcs386.2 k = .inr (99, []) := (vau_ne (by omega)).trans (zcd385 h)
theorem zcd387 {k : Nat} (h : 193 ≤ k) : zcs387.2 k = .inr (99, []) := (vau_ne (by omega)).trans (zcd386 h)
theorem zcd388 {k : Nat} (h : 193 ≤ k) : zcs388.2 k = .inr (99, []) := (vau_ne (by omega)).trans (zcd387 h)
theorem zcd389 {k : Nat} (h : 193 ≤ k) : zcs389.2 k = .inr (99, []) := (vau_ne (by omega)).trans (zcd388 h)
theorem zcd390 {k : Nat} (h : 193 ≤ k) : zcs390.2 k = .inr (99, []) := (vau_ne (by omega)).trans (zcd389 h)
theorem zcd391 {k : Nat} (h : 193 ≤ k) : zcs391.2 k = .inr (99, []) := (vau_ne (by omega)).trans (zcd390 h)
theorem zcd392 {k : Nat} (h : 193 ≤ k) : zcs392.2 k = .inr (99, []) := (vau_ne (by omega)).trans (zcd391 h)
theorem zcd393 {k : Nat} (h : 193 ≤ k) : zcs393.2 k = .inr (99, []) := (vau_ne (by omega)).trans (zcd392 h)
theorem zcd394 {k : Nat} (h : 193 ≤ k) : zcs394.2 k = .inr (99, []) := (vau_ne (by omega)).trans (zcd393 h)
theorem zcd395 {k : Nat} (h : 193 ≤ k) : zcs395.2 k = .inr (99, []) := (vau_ne (by omega)).trans (zcd394 h)
theorem zcd396 {k : Nat} (h : 193 ≤ k) : zcs396.2 k = .inr (99, []) := (vau_ne (by omega)).trans (zcd395 h)
theorem zcd397 {k : Nat} (h : 193 ≤ k) : zcs397.2 k = .inr (99, []) := (vau_ne (by omega)).trans (zcd396 h)
theorem zcd398 {k : Nat} (h : 193 ≤ k) : zcs398.2 k = .inr (99, []) := (vau_ne (by omega)).trans (zcd397 h)
theorem zcd399 {k : Nat} (h : 193 ≤ k) : zcs399.2 k = .inr (99, []) := (vau_ne (by omega)).trans (zcd398 h)
theorem zcd400 {k : Nat} (h : 193 ≤ k) : zcs400.2 k = .inr (99, []) := (vau_ne (by omega)).trans (zcd399 h)
theorem zcd401 {k : Nat} (h : 193 ≤ k) : zcs401.2 k = .inr (99, []) := (vau_ne (by omega)).trans (zcd400 h)
theorem zcd402 {k : Nat} (h : 193 ≤ k) : zcs402.2 k = .inr (99, []) := (vau_ne (by omega)).trans (zcd401 h)
theorem zcd403 {k : Nat} (h : 193 ≤ k) : zcs403.2 k = .inr (99, []) := (vau_ne (by omega)).trans (zcd402 h)
theorem zcd404 {k : Nat} (h : 193 ≤ k) : zcs404.2 k = .inr (99, []) := (vau_ne (by omega)).trans (zcd403 h)
theorem zcd405 {k : Nat} (h : 193 ≤ k) : zcs405.2 k = .inr (99, []) := (vau_ne (by omega)).trans (zcd404 h)
theorem zcd406 {k : Nat} (h : 193 ≤ k) : zcs406.2 k = .inr (99, []) := (vau_ne (by omega)).trans (zcd405 h)
theorem zcd407 {k : Nat} (h : 193 ≤ k) : zcs407.2 k = .inr (99, []) := (vau_ne (by omega)).trans (zcd406 h)
theorem zcd408 {k : Nat} (h : 193 ≤ k) : zcs408.2 k = .inr (99, []) := (vau_ne (by omega)).trans (zcd407 h)
theorem zcd409 {k : Nat} (h : 193 ≤ k) : zcs409.2 k = .inr (99, []) := (vau_ne (by omega)).trans (zcd408 h)
theorem zcd410 {k : Nat} (h : 193 ≤ k) : zcs410.2 k = .inr (99, []) := (vau_ne (by omega)).trans (zcd409 h)
theorem zcd411 {k : Nat} (h : 193 ≤ k) : zcs411.2 k = .inr (99, []) := (vau_ne (by omega)).trans (zcd410 h)
theorem zcd412 {k : Nat} (h : 193 ≤ k) : zcs412.2 k = .inr (99, []) := (vau_ne (by omega)).trans (zcd411 h)
theorem zcd413 {k : Nat} (h : 193 ≤ k) : zcs413.2 k = .inr (99, []) := (vau_ne (by omega)).trans (zcd412 h)
theorem zcd414 {k : Nat} (h : 193 ≤ k) : zcs414.2 k = .inr (99, []) := (vau_ne (by omega)).trans (zcd413 h)
theorem zcd415 {k : Nat} (h : 193 ≤ k) : zcs415.2 k = .inr (99, []) := (vau_ne (by omega)).trans (zcd414 h)
theorem zcd416 {k : Nat} (h : 193 ≤ k) : zcs416.2 k = .inr (99, []) := (vau_ne (by omega)).trans (zcd415 h)
theorem zcd417 {k : Nat} (h : 193 ≤ k) : zcs417.2 k = .inr (99, []) := (vau_ne (by omega)).trans (zcd416 h)
theorem zcd418 {k : Nat} (h : 193 ≤ k) : zcs418.2 k = .inr (99, []) := (vau_ne (by omega)).trans (zcd417 h)
theorem zcd419 {k : Nat} (h : 193 ≤ k) : zcs419.2 k = .inr (99, []) := (vau_ne (by omega)).trans (zcd418 h)
theorem zcd420 {k : Nat} (h : 193 ≤ k) : zcs420.2 k = .inr (99, []) := (vau_ne (by omega)).trans (zcd419 h)
theorem zcd421 {k : Nat} (h : 193 ≤ k) : zcs421.2 k = .inr (99, []) := (vau_ne (by omega)).trans (zcd420 h)
theorem zcd422 {k : Nat} (h : 193 ≤ k) : zcs422.2 k = .inr (99, []) := (vau_ne (by omega)).trans (zcd421 h)
theorem zcd423 {k : Nat} (h : 193 ≤ k) : zcs423.2 k = .inr (99, []) := (vau_ne (by omega)).trans (zcd422 h)
theorem zcd424 {k : Nat} (h : 193 ≤ k) : zcs424.2 k = .inr (99, []) := (vau_ne (by omega)).trans (zcd423 h)
theorem zcd425 {k : Nat} (h : 193 ≤ k) : zcs425.2 k = .inr (99, []) := (vau_ne (by omega)).trans (zcd424 h)
theorem zcd426 {k : Nat} (h : 193 ≤ k) : zcs426.2 k = .inr (99, []) := (vau_ne (by omega)).trans (zcd425 h)
theorem zcd427 {k : Nat} (h : 193 ≤ k) : zcs427.2 k = .inr (99, []) := (vau_ne (by omega)).trans (zcd426 h)
theorem zcd428 {k : Nat} (h : 193 ≤ k) : zcs428.2 k = .inr (99, []) := (vau_ne (by omega)).trans (zcd427 h)
theorem zcd429 {k : Nat} (h : 193 ≤ k) : zcs429.2 k = .inr (99, []) := (vau_ne (by omega)).trans (zcd428 h)
theorem zcd430 {k : Nat} (h : 193 ≤ k) : zcs430.2 k = .inr (99, []) := (vau_ne (by omega)).trans (zcd429 h)
theorem zcd431 {k : Nat} (h : 193 ≤ k) : zcs431.2 k = .inr (99, []) := (vau_ne (by omega)).trans (zcd430 h)
theorem zcd432 {k : Nat} (h : 193 ≤ k) : zcs432.2 k = .inr (99, []) := (vau_ne (by omega)).trans (zcd431 h)
theorem zcd433 {k : Nat} (h : 193 ≤ k) : zcs433.2 k = .inr (99, []) := (vau_ne (by omega)).trans (zcd432 h)
theorem zcd434 {k : Nat} (h : 193 ≤ k) : zcs434.2 k = .inr (99, []) := (vau_ne (by omega)).trans (zcd433 h)
theorem zcd435 {k : Nat} (h : 193 ≤ k) : zcs435.2 k = .inr (99, []) := (vau_ne (by omega)).trans (zcd434 h)
theorem zcd436 {k : Nat} (h : 193 ≤ k) : zcs436.2 k = .inr (99, []) := (vau_ne (by omega)).trans (zcd435 h)
theorem zcd437 {k : Nat} (h : 193 ≤ k) : zcs437.2 k = .inr (99, []) := (vau_ne (by omega)).trans (zcd436 h)
theorem zcd438 {k : Nat} (h : 193 ≤ k) : zcs438.2 k = .inr (99, []) := (vau_ne (by omega)).trans (zcd437 h)
theorem zcd439 {k : Nat} (h : 193 ≤ k) : zcs439.2 k = .inr (99, []) := (vau_ne (by omega)).trans (zcd438 h)
theorem zcd440 {k : Nat} (h : 193 ≤ k) : zcs440.2 k = .inr (99, []) := (vau_ne (by omega)).trans (zcd439 h)
theorem zcd441 {k : Nat} (h : 193 ≤ k) : zcs441.2 k = .inr (99, []) := (vau_ne (by omega)).trans (zcd440 h)
theorem zcd442 {k : Nat} (h : 193 ≤ k) : zcs442.2 k = .inr (99, []) := (vau_ne (by omega)).trans (zcd441 h)
theorem zcd443 {k : Nat} (h : 193 ≤ k) : zcs443.2 k = .inr (99, []) := (vau_ne (by omega)).trans (zcd442 h)
theorem zcd444 {k : Nat} (h : 193 ≤ k) : zcs444.2 k = .inr (99, []) := (vau_ne (by omega)).trans (zcd443 h)
theorem zcd445 {k : Nat} (h : 193 ≤ k) : zcs445.2 k = .inr (99, []) := (vau_ne (by omega)).trans (zcd444 h)
theorem zcd446 {k : Nat} (h : 193 ≤ k) : zcs446.2 k = .inr (99, []) := (vau_ne (by omega)).trans (zcd445 h)
theorem zcd447 {k : Nat} (h : 193 ≤ k) : zcs447.2 k = .inr (99, []) := (vau_ne (by omega)).trans (zcd446 h)
theorem zcd448 {k : Nat} (h : 193 ≤ k) : zcs448.2 k = .inr (99, []) := (vau_ne (by omega)).trans (zcd447 h)
theorem zcd449 {k : Nat} (h : 193 ≤ k) : zcs449.2 k = .inr (99, []) := (vau_ne (by omega)).trans (zcd448 h)
theorem zcd450 {k : Nat} (h : 193 ≤ k) : zcs450.2 k = .inr (99, []) := (vau_ne (by omega)).trans (zcd449 h)
theorem zcd451 {k : Nat} (h : 193 ≤ k) : zcs451.2 k = .inr (99, []) := (vau_ne (by omega)).trans (zcd450 h)
theorem zcd452 {k : Nat} (h : 193 ≤ k) : zcs452.2 k = .inr (99, []) := (vau_ne (by omega)).trans (zcd451 h)
theorem zcd453 {k : Nat} (h : 193 ≤ k) : zcs453.2 k = .inr (99, []) := (vau_ne (by omega)).trans (zcd452 h)
theorem zcd454 {k : Nat} (h : 193 ≤ k) : zcs454.2 k = .inr (99, []) := (vau_ne (by omega)).trans (zcd453 h)
theorem zcd455 {k : Nat} (h : 193 ≤ k) : zcs455.2 k = .inr (99, []) := (vau_ne (by omega)).trans (zcd454 h)
theorem zcd456 {k : Nat} (h : 193 ≤ k) : zcs456.2 k = .inr (99, []) := (vau_ne (by omega)).trans (zcd455 h)
theorem zcd457 {k : Nat} (h : 193 ≤ k) : zcs457.2 k = .inr (99, []) := (vau_ne (by omega)).trans (zcd456 h)
theorem zcd458 {k : Nat} (h : 193 ≤ k) : zcs458.2 k = .inr (99, []) := (vau_ne (by omega)).trans (zcd457 h)
theorem zcd459 {k : Nat} (h : 193 ≤ k) : zcs459.2 k = .inr (99, []) := (vau_ne (by omega)).trans (zcd458 h)
theorem zcd460 {k : Nat} (h : 193 ≤ k) : zcs460.2 k = .inr (99, []) := (vau_ne (by omega)).trans (zcd459 h)
theorem zcd461 {k : Nat} (h : 193 ≤ k) : zcs461.2 k = .inr (99, []) := (vau_ne (by omega)).trans (zcd460 h)
theorem zcd462 {k : Nat} (h : 193 ≤ k) : zcs462.2 k = .inr (99, []) := (vau_ne (by omega)).trans (zcd461 h)
theorem zcd463 {k : Nat} (h : 193 ≤ k) : zcs463.2 k = .inr (99, []) := (vau_ne (by omega)).trans (zcd462 h)
theorem zcd464 {k : Nat} (h : 193 ≤ k) : zcs464.2 k = .inr (99, []) := (vau_ne (by omega)).trans (zcd463 h)
theorem zcd465 {k : Nat} (h : 193 ≤ k) : zcs465.2 k = .inr (99, []) := (vau_ne (by omega)).trans (zcd464 h)
theorem zcd466 {k : Nat} (h : 193 ≤ k) : zcs466.2 k = .inr (99, []) := (vau_ne (by omega)).trans (zcd465 h)
theorem zcd467 {k : Nat} (h : 193 ≤ k) : zcs467.2 k = .inr (99, []) := (vau_ne (by omega)).trans (zcd466 h)
theorem zcd468 {k : Nat} (h : 193 ≤ k) : zcs468.2 k = .inr (99, []) := (vau_ne (by omega)).trans (zcd467 h)
theorem zcd469 {k : Nat} (h : 193 ≤ k) : zcs469.2 k = .inr (99, []) := (vau_ne (by omega)).trans (zcd468 h)
theorem zcd470 {k : Nat} (h : 193 ≤ k) : zcs470.2 k = .inr (99, []) := (vau_ne (by omega)).trans (zcd469 h)
theorem zcd471 {k : Nat} (h : 193 ≤ k) : zcs471.2 k = .inr (99, []) := (vau_ne (by omega)).trans (zcd470 h)
theorem zcd472 {k : Nat} (h : 193 ≤ k) : zcs472.2 k = .inr (99, []) := (vau_ne (by omega)).trans (zcd471 h)
theorem zcd473 {k : Nat} (h : 193 ≤ k) : zcs473.2 k = .inr (99, []) := (vau_ne (by omega)).trans (zcd472 h)
theorem zcd474 {k : Nat} (h : 193 ≤ k) : zcs474.2 k = .inr (99, []) := (vau_ne (by omega)).trans (zcd473 h)
theorem zcd475 {k : Nat} (h : 193 ≤ k) : zcs475.2 k = .inr (99, []) := (vau_ne (by omega)).trans (zcd474 h)
theorem zcd476 {k : Nat} (h : 193 ≤ k) : zcs476.2 k = .inr (99, []) := (vau_ne (by omega)).trans (zcd475 h)
theorem zcd477 {k : Nat} (h : 193 ≤ k) : zcs477.2 k = .inr (99, []) := (vau_ne (by omega)).trans (zcd476 h)
theorem zcd478 {k : Nat} (h : 193 ≤ k) : zcs478.2 k = .inr (99, []) := (vau_ne (by omega)).trans (zcd477 h)
theorem zcd479 {k : Nat} (h : 193 ≤ k) : zcs479.2 k = .inr (99, []) := (vau_ne (by omega)).trans (zcd478 h)
theorem zcd480 {k : Nat} (h : 193 ≤ k) : zcs480.2 k = .inr (99, []) := (vau_ne (by omega)).trans (zcd479 h)
theorem zcd481 {k : Nat} (h : 193 ≤ k) : zcs481.2 k = .inr (99, []) := (vau_ne (by omega)).trans (zcd480 h)
theorem zcd482 {k : Nat} (h : 193 ≤ k) : zcs482.2 k = .inr (99, []) := (vau_ne (by omega)).trans (zcd481 h)
theorem zcd483 {k : Nat} (h : 193 ≤ k) : zcs483.2 k = .inr (99, []) := (vau_ne (by omega)).trans (zcd482 h)
theorem zcd484 {k : Nat} (h : 193 ≤ k) : zcs484.2 k = .inr (99, []) := (vau_ne (by omega)).trans (zcd483 h)
theorem zcd485 {k : Nat} (h : 193 ≤ k) : zcs485.2 k = .inr (99, []) := (vau_ne (by omega)).trans (zcd484 h)
theorem zcd486 {k : Nat} (h : 193 ≤ k) : zcs486.2 k = .inr (99, []) := (vau_ne (by omega)).trans (zcd485 h)
theorem zcd487 {k : Nat} (h : 193 ≤ k) : zcs487.2 k = .inr (99, []) := (vau_ne (by omega)).trans (zcd486 h)
theorem zcd488 {k : Nat} (h : 193 ≤ k) : zcs488.2 k = .inr (99, []) := (vau_ne (by omega)).trans (zcd487 h)
theorem zcd489 {k : Nat} (h : 193 ≤ k) : zcs489.2 k = .inr (99, []) := (vau_ne (by omega)).trans (zcd488 h)
theorem zcd490 {k : Nat} (h : 193 ≤ k) : zcs490.2 k = .inr (99, []) := (vau_ne (by omega)).trans (zcd489 h)
theorem zcd491 {k : Nat} (h : 193 ≤ k) : zcs491.2 k = .inr (99, []) := (vau_ne (by omega)).trans (zcd490 h)
theorem zcd492 {k : Nat} (h : 193 ≤ k) : zcs492.2 k = .inr (99, []) := (vau_ne (by omega)).trans (zcd491 h)
theorem zcd493 {k : Nat} (h : 193 ≤ k) : zcs493.2 k = .inr (99, []) := (vau_ne (by omega)).trans (zcd492 h)
theorem zcd494 {k : Nat} (h : 193 ≤ k) : zcs494.2 k = .inr (99, []) := (vau_ne (by omega)).trans (zcd493 h)
theorem zcd495 {k : Nat} (h : 193 ≤ k) : zcs495.2 k = .inr (99, []) := (vau_ne (by omega)).trans (zcd494 h)
theorem zcd496 {k : Nat} (h : 193 ≤ k) : zcs496.2 k = .inr (99, []) := (vau_ne (by omega)).trans (zcd495 h)
theorem zcd497 {k : Nat} (h : 193 ≤ k) : zcs497.2 k = .inr (99, []) := (vau_ne (by omega)).trans (zcd496 h)
theorem zcd498 {k : Nat} (h : 193 ≤ k) : zcs498.2 k = .inr (99, []) := (vau_ne (by omega)).trans (zcd497 h)
theorem zcd499 {k : Nat} (h : 193 ≤ k) : zcs499.2 k = .inr (99, []) := (vau_ne (by omega)).trans (zcd498 h)
theorem zcd500 {k : Nat} (h : 193 ≤ k) : zcs500.2 k = .inr (99, []) := (vau_ne (by omega)).trans (zcd499 h)
theorem zcd501 {k : Nat} (h : 193 ≤ k) : zcs501.2 k = .inr (99, []) := (vau_ne (by omega)).trans (zcd500 h)
theorem zcd502 {k : Nat} (h : 193 ≤ k) : zcs502.2 k = .inr (99, []) := (vau_ne (by omega)).trans (zcd501 h)
theorem zcd503 {k : Nat} (h : 193 ≤ k) : zcs503.2 k = .inr (99, []) := (vau_ne (by omega)).trans (zcd502 h)
theorem zcd504 {k : Nat} (h : 193 ≤ k) : zcs504.2 k = .inr (99, []) := (vau_ne (by omega)).trans (zcd503 h)
theorem zcd505 {k : Nat} (h : 193 ≤ k) : zcs505.2 k = .inr (99, []) := (vau_ne (by omega)).trans (zcd504 h)
theorem zcd506 {k : Nat} (h : 193 ≤ k) : zcs506.2 k = .inr (99, []) := (vau_ne (by omega)).trans (zcd505 h)
theorem zcd507 {k : Nat} (h : 193 ≤ k) : zcs507.2 k = .inr (99, []) := (vau_ne (by omega)).trans (zcd506 h)
theorem zcd508 {k : Nat} (h : 193 ≤ k) : zcs508.2 k = .inr (99, []) := (vau_ne (by omega)).trans (zcd507 h)
theorem zcd509 {k : Nat} (h : 193 ≤ k) : zcs509.2 k = .inr (99, []) := (vau_ne (by omega)).trans (zcd508 h)
theorem zcd510 {k : Nat} (h : 193 ≤ k) : zcs510.2 k = .inr (99, []) := (vau_ne (by omega)).trans (zcd509 h)
theorem zcd511 {k : Nat} (h : 193 ≤ k) : zcs511.2 k = .inr (99, []) := (vau_ne (by omega)).trans (zcd510 h)
theorem zcd512 {k : Nat} (h : 193 ≤ k) : zcs512.2 k = .inr (99, []) := (vau_ne (by omega)).trans (zcd511 h)
theorem zcd513 {k : Nat} (h : 193 ≤ k) : zcs513.2 k = .inr (99, []) := (vau_ne (by omega)).trans (zcd512 h)
theorem zcd514 {k : Nat} (h : 193 ≤ k) : zcs514.2 k = .inr (99, []) := (vau_ne (by omega)).trans (zcd513 h)
theorem zcd515 {k : Nat} (h : 193 ≤ k) : zcs515.2 k = .inr (99, []) := (vau_ne (by omega)).trans (zcd514 h)
theorem zcd516 {k : Nat} (h : 193 ≤ k) : zcs516.2 k = .inr (99, []) := (vau_ne (by omega)).trans (zcd515 h)
theorem zcd517 {k : Nat} (h : 193 ≤ k) : zcs517.2 k = .inr (99, []) := (vau_ne (by omega)).trans (zcd516 h)
theorem zcd518 {k : Nat} (h : 193 ≤ k) : zcs518.2 k = .inr (99, []) := (vau_ne (by omega)).trans (zcd517 h)
theorem zcd519 {k : Nat} (h : 193 ≤ k) : zcs519.2 k = .inr (99, []) := (vau_ne (by omega)).trans (zcd518 h)
theorem zcd520 {k : Nat} (h : 193 ≤ k) : zcs520.2 k = .inr (99, []) := (vau_ne (by omega)).trans (zcd519 h)
theorem zcd521 {k : Nat} (h : 193 ≤ k) : zcs521.2 k = .inr (99, []) := (vau_ne (by omega)).trans (zcd520 h)
theorem zcd522 {k : Nat} (h : 193 ≤ k) : zcs522.2 k = .inr (99, []) := (vau_ne (by omega)).trans (zcd521 h)
theorem zcd523 {k : Nat} (h : 193 ≤ k) : zcs523.2 k = .inr (99, []) := (vau_ne (by omega)).trans (zcd522 h)
theorem zcd524 {k : Nat} (h : 193 ≤ k) : zcs524.2 k = .inr (99, []) := (vau_ne (by omega)).trans (zcd523 h)
theorem zcd525 {k : Nat} (h : 193 ≤ k) : zcs525.2 k = .inr (99, []) := (vau_ne (by omega)).trans (zcd524 h)
theorem zcd526 {k : Nat} (h : 193 ≤ k) : zcs526.2 k = .inr (99, []) := (vau_ne (by omega)).trans (zcd525 h)
theorem zcd527 {k : Nat} (h : 193 ≤ k) : zcs527.2 k = .inr (99, []) := (vau_ne (by omega)).trans (zcd526 h)
theorem zcd528 {k : Nat} (h : 193 ≤ k) : zcs528.2 k = .inr (99, []) := (vau_ne (by omega)).trans (zcd527 h)
theorem zcd529 {k : Nat} (h : 193 ≤ k) : zcs529.2 k = .inr (99, []) := (vau_ne (by omega)).trans (zcd528 h)
theorem zcd530 {k : Nat} (h : 193 ≤ k) : zcs530.2 k = .inr (99, []) := (vau_ne (by omega)).trans (zcd529 h)
theorem zcd531 {k : Nat} (h : 193 ≤ k) : zcs531.2 k = .inr (99, []) := (vau_ne (by omega)).trans (zcd530 h)
theorem zcd532 {k : Nat} (h : 193 ≤ k) : zcs532.2 k = .inr (99, []) := (vau_ne (by omega)).trans (zcd531 h)
theorem zcd533 {k : Nat} (h : 193 ≤ k) : zcs533.2 k = .inr (99, []) := (vau_ne (by omega)).trans (zcd532 h)
theorem zcd534 {k : Nat} (h : 193 ≤ k) : zcs534.2 k = .inr (99, []) := (vau_ne (by omega)).trans (zcd533 h)
theorem zcd535 {k : Nat} (h : 193 ≤ k) : zcs535.2 k = .inr (99, []) := (vau_ne (by omega)).trans (zcd534 h)
theorem zcd536 {k : Nat} (h : 193 ≤ k) : zcs536.2 k = .inr (99, []) := (vau_ne (by omega)).trans (zcd535 h)
theorem zcd537 {k : Nat} (h : 193 ≤ k) : zcs537.2 k = .inr (99, []) := (vau_ne (by omega)).trans (zcd536 h)
theorem zcd538 {k : Nat} (h : 193 ≤ k) : zcs538.2 k = .inr (99, []) := (vau_ne (by omega)).trans (zcd537 h)
theorem zcd539 {k : Nat} (h : 193 ≤ k) : zcs539.2 k = .inr (99, []) := (vau_ne (by omega)).trans (zcd538 h)
theorem zcd540 {k : Nat} (h : 193 ≤ k) : zcs540.2 k = .inr (99, []) := (vau_ne (by omega)).trans (zcd539 h)
theorem zcd541 {k : Nat} (h : 193 ≤ k) : zcs541.2 k = .inr (99, []) := (vau_ne (by omega)).trans (zcd540 h)
theorem zcd542 {k : Nat} (h : 193 ≤ k) : zcs542.2 k = .inr (99, []) := (vau_ne (by omega)).trans (zcd541 h)
theorem zcd543 {k : Nat} (h : 193 ≤ k) : zcs543.2 k = .inr (99, []) := (vau_ne (by omega)).trans (zcd542 h)
theorem zcd544 {k : Nat} (h : 193 ≤ k) : zcs544.2 k = .inr (99, []) := (vau_ne (by omega)).trans (zcd543 h)
theorem zcd545 {k : Nat} (h : 193 ≤ k) : zcs545.2 k = .inr (99, []) := (vau_ne (by omega)).trans (zcd544 h)
theorem zcd546 {k : Nat} (h : 193 ≤ k) : zcs546.2 k = .inr (99, []) := (vau_ne (by omega)).trans (zcd545 h)
theorem zcd547 {k : Nat} (h : 193 ≤ k) : zcs547.2 k = .inr (99, []) := (vau_ne (by omega)).trans (zcd546 h)
theorem zcd548 {k : Nat} (h : 193 ≤ k) : zcs548.2 k = .inr (99, []) := (vau_ne (by omega)).trans (zcd547 h)
theorem zcd549 {k : Nat} (h : 193 ≤ k) : zcs549.2 k = .inr (99, []) := (vau_ne (by omega)).trans (zcd548 h)
theorem zcd550 {k : Nat} (h : 193 ≤ k) : zcs550.2 k = .inr (99, []) := (vau_ne (by omega)).trans (zcd549 h)
theorem zcd551 {k : Nat} (h : 193 ≤ k) : zcs551.2 k = .inr (99, []) := (vau_ne (by omega)).trans (zcd550 h)
theorem zcd552 {k : Nat} (h : 193 ≤ k) : zcs552.2 k = .inr (99, []) := (vau_ne (by omega)).trans (zcd551 h)
theorem zcd553 {k : Nat} (h : 193 ≤ k) : zcs553.2 k = .inr (99, []) := (vau_ne (by omega)).trans (zcd552 h)
theorem zcd554 {k : Nat} (h : 193 ≤ k) : zcs554.2 k = .inr (99, []) := (vau_ne (by omega)).trans (zcd553 h)
theorem zcd555 {k : Nat} (h : 193 ≤ k) : zcs555.2 k = .inr (99, []) := (vau_ne (by omega)).trans (zcd554 h)
theorem zcd556 {k : Nat} (h : 193 ≤ k) : zcs556.2 k = .inr (99, []) := (vau_ne (by omega)).trans (zcd555 h)
theorem zcd557 {k : Nat} (h : 193 ≤ k) : zcs557.2 k = .inr (99, []) := (vau_ne (by omega)).trans (zcd556 h)
theorem zcd558 {k : Nat} (h : 193 ≤ k) : zcs558.2 k = .inr (99, []) := (vau_ne (by omega)).trans (zcd557 h)
theorem zcd559 {k : Nat} (h : 193 ≤ k) : zcs559.2 k = .inr (99, []) := (vau_ne (by omega)).trans (zcd558 h)
theorem zcd560 {k : Nat} (h : 193 ≤ k) : zcs560.2 k = .inr (99, []) := (vau_ne (by omega)).trans (zcd559 h)
theorem zcd561 {k : Nat} (h : 193 ≤ k) : zcs561.2 k = .inr (99, []) := (vau_ne (by omega)).trans (zcd560 h)
theorem zcd562 {k : Nat} (h : 193 ≤ k) : zcs562.2 k = .inr (99, []) := (vau_ne (by omega)).trans (zcd561 h)
theorem zcd563 {k : Nat} (h : 193 ≤ k) : zcs563.2 k = .inr (99, []) := (vau_ne (by omega)).trans (zcd562 h)
theorem zcd564 {k : Nat} (h : 193 ≤ k) : zcs564.2 k = .inr (99, []) := (vau_ne (by omega)).trans (zcd563 h)
theorem zcd565 {k : Nat} (h : 193 ≤ k) : zcs565.2 k = .inr (99, []) := (vau_ne (by omega)).trans (zcd564 h)
theorem zcd566 {k : Nat} (h : 193 ≤ k) : zcs566.2 k = .inr (99, []) := (vau_ne (by omega)).trans (zcd565 h)
theorem zcd567 {k : Nat} (h : 193 ≤ k) : zcs567.2 k = .inr (99, []) := (vau_ne (by omega)).trans (zcd566 h)
theorem zcd568 {k : Nat} (h : 193 ≤ k) : zcs568.2 k = .inr (99, []) := (vau_ne (by omega)).trans (zcd567 h)
theorem zcd569 {k : Nat} (h : 193 ≤ k) : zcs569.2 k = .inr (99, []) := (vau_ne (by omega)).trans (zcd568 h)
theorem zcd570 {k : Nat} (h : 193 ≤ k) : zcs570.2 k = .inr (99, []) := (vau_ne (by omega)).trans (zcd569 h)
theorem zcd571 {k : Nat} (h : 193 ≤ k) : zcs571.2 k = .inr (99, []) := (vau_ne (by omega)).trans (zcd570 h)
theorem zcd572 {k : Nat} (h : 193 ≤ k) : zcs572.2 k = .inr (99, []) := (vau_ne (by omega)).trans (zcd571 h)
theorem zcd573 {k : Nat} (h : 193 ≤ k) : zcs573.2 k = .inr (99, []) := (vau_ne (by omega)).trans (zcd572 h)
theorem zcd574 {k : Nat} (h : 193 ≤ k) : zcs574.2 k = .inr (99, []) := (vau_ne (by omega)).trans (zcd573 h)
theorem zcd575 {k : Nat} (h : 193 ≤ k) : zcs575.2 k = .inr (99, []) := (vau_ne (by omega)).trans (zcd574 h)
theorem zcd576 {k : Nat} (h : 193 ≤ k) : zcs576.2 k = .inr (99, []) := (vau_ne (by omega)).trans (zcd575 h)
theorem zcd577 {k : Nat} (h : 193 ≤ k) : zcs577.2 k = .inr (99, []) := (vau_ne (by omega)).trans (zcd576 h)
theorem zcd578 {k : Nat} (h : 193 ≤ k) : zcs578.2 k = .inr (99, []) := (vau_ne (by omega)).trans (zcd577 h)
theorem zcd579 {k : Nat} (h : 193 ≤ k) : zcs579.2 k = .inr (99, []) := (vau_ne (by omega)).trans (zcd578 h)
set_option maxRecDepth 100000 in
theorem zca0 : zcs579.2 0 = c_el 0 (zF 0) (zA 0) (zB 0) zR := rfl
set_option maxRecDepth 100000 in
theorem zca1 : zcs579.2 1 = c_el 1 (zF 1) (zA 1) (zB 1) zR := rfl
set_option maxRecDepth 100000 in
theorem zca2 : zcs579.2 2 = c_el 2 (zF 2) (zA 2) (zB 2) zR := rfl
set_option maxRecDepth 100000 in
theorem zca3 : zcs579.2 3 = c_el 3 (zF 3) (zA 3) (zB 3) zR := rfl
set_option maxRecDepth 100000 in
theorem zca4 : zcs579.2 4 = c_el 4 (zF 4) (zA 4) (zB 4) zR := rfl
set_option maxRecDepth 100000 in
theorem zca5 : zcs579.2 5 = c_el 5 (zF 5) (zA 5) (zB 5) zR := rfl
set_option maxRecDepth 100000 in
theorem zca6 : zcs579.2 6 = c_el 6 (zF 6) (zA 6) (zB 6) zR := rfl
set_option maxRecDepth 100000 in
theorem zca7 : zcs579.2 7 = c_el 7 (zF 7) (zA 7) (zB 7) zR := rfl
set_option maxRecDepth 100000 in
theorem zca8 : zcs579.2 8 = c_el 8 (zF 8) (zA 8) (zB 8) zR := rfl
set_option maxRecDepth 100000 in
theorem zca9 : zcs579.2 9 = c_el 9 (zF 9) (zA 9) (zB 9) zR := rfl
set_option maxRecDepth 100000 in
theorem zca10 : zcs579.2 10 = c_el 10 (zF 10) (zA 10) (zB 10) zR := rfl
set_option maxRecDepth 100000 in
theorem zca11 : zcs579.2 11 = c_el 11 (zF 11) (zA 11) (zB 11) zR := rfl
set_option maxRecDepth 100000 in
theorem zca12 : zcs579.2 12 = c_el 12 (zF 12) (zA 12) (zB 12) zR := rfl
set_option maxRecDepth 100000 in
theorem zca13 : zcs579.2 13 = c_el 13 (zF 13) (zA 13) (zB 13) zR := rfl
set_option maxRecDepth 100000 in
theorem zca14 : zcs579.2 14 = c_el 14 (zF 14) (zA 14) (zB 14) zR := rfl
set_option maxRecDepth 100000 in
theorem zca15 : zcs579.2 15 = c_el 15 (zF 15) (zA 15) (zB 15) zR := rfl
set_option maxRecDepth 100000 in
theorem zca16 : zcs579.2 16 = c_el 16 (zF 16) (zA 16) (zB 16) zR := rfl
set_option maxRecDepth 100000 in
theorem zca17 : zcs579.2 17 = c_el 17 (zF 17) (zA 17) (zB 17) zR := rfl
set_option maxRecDepth 100000 in
theorem zca18 : zcs579.2 18 = c_el 18 (zF 18) (zA 18) (zB 18) zR := rfl
set_option maxRecDepth 100000 in
theorem zca19 : zcs579.2 19 = c_el 19 (zF 19) (zA 19) (zB 19) zR := rfl
set_option maxRecDepth 100000 in
theorem zca20 : zcs579.2 20 = c_el 20 (zF 20) (zA 20) (zB 20) zR := rfl
set_option maxRecDepth 100000 in
theorem zca21 : zcs579.2 21 = c_el 21 (zF 21) (zA 21) (zB 21) zR := rfl
set_option maxRecDepth 100000 in
theorem zca22 : zcs579.2 22 = c_el 22 (zF 22) (zA 22) (zB 22) zR := rfl
set_option maxRecDepth 100000 in
theorem zca23 : zcs579.2 23 = c_el 23 (zF 23) (zA 23) (zB 23) zR := rfl
set_option maxRecDepth 100000 in
theorem zca24 : zcs579.2 24 = c_el 24 (zF 24) (zA 24) (zB 24) zR := rfl
set_option maxRecDepth 100000 in
theorem zca25 : zcs579.2 25 = c_el 25 (zF 25) (zA 25) (zB 25) zR := rfl
set_option maxRecDepth 100000 in
theorem zca26 : zcs579.2 26 = c_el 26 (zF 26) (zA 26) (zB 26) zR := rfl
set_option maxRecDepth 100000 in
theorem zca27 : zcs579.2 27 = c_el 27 (zF 27) (zA 27) (zB 27) zR := rfl
set_option maxRecDepth 100000 in
theorem zca28 : zcs579.2 28 = c_el 28 (zF 28) (zA 28) (zB 28) zR := rfl
set_option maxRecDepth 100000 in
theorem zca29 : zcs579.2 29 = c_el 29 (zF 29) (zA 29) (zB 29) zR := rfl
set_option maxRecDepth 100000 in
theorem zca30 : zcs579.2 30 = c_el 30 (zF 30) (zA 30) (zB 30) zR := rfl
set_option maxRecDepth 100000 in
theorem zca31 : zcs579.2 31 = c_el 31 (zF 31) (zA 31) (zB 31) zR := rfl
set_option maxRecDepth 100000 in
theorem zca32 : zcs579.2 32 = c_el 32 (zF 32) (zA 32) (zB 32) zR := rfl
set_option maxRecDepth 100000 in
theorem zca33 : zcs579.2 33 = c_el 33 (zF 33) (zA 33) (zB 33) zR := rfl
set_option maxRecDepth 100000 in
theorem zca34 : zcs579.2 34 = c_el 34 (zF 34) (zA 34) (zB 34) zR := rfl
set_option maxRecDepth 100000 in
theorem zca35 : zcs579.2 35 = c_el 35 (zF 35) (zA 35) (zB 35) zR := rfl
set_option maxRecDepth 100000 in
theorem zca36 : zcs579.2 36 = c_el 36 (zF 36) (zA 36) (zB 36) zR := rfl
set_option maxRecDepth 100000 in
theorem zca37 : zcs579.2 37 = c_el 37 (zF 37) (zA 37) (zB 37) zR := rfl
set_option maxRecDepth 100000 in
theorem zca38 : zcs579.2 38 = c_el 38 (zF 38) (zA 38) (zB 38) zR := rfl
set_option maxRecDepth 100000 in
theorem zca39 : zcs579.2 39 = c_el 39 (zF 39) (zA 39) (zB 39) zR := rfl
set_option maxRecDepth 100000 in
theorem zca40 : zcs579.2 40 = c_el 40 (zF 40) (zA 40) (zB 40) zR := rfl
set_option maxRecDepth 100000 in
theorem zca41 : zcs579.2 41 = c_el 41 (zF 41) (zA 41) (zB 41) zR := rfl
set_option maxRecDepth 100000 in
theorem zca42 : zcs579.2 42 = c_el 42 (zF 42) (zA 42) (zB 42) zR := rfl
set_option maxRecDepth 100000 in
theorem zca43 : zcs579.2 43 = c_el 43 (zF 43) (zA 43) (zB 43) zR := rfl
set_option maxRecDepth 100000 in
theorem zca44 : zcs579.2 44 = c_el 44 (zF 44) (zA 44) (zB 44) zR := rfl
set_option maxRecDepth 100000 in
theorem zca45 : zcs579.2 45 = c_el 45 (zF 45) (zA 45) (zB 45) zR := rfl
set_option maxRecDepth 100000 in
theorem zca46 : zcs579.2 46 = c_el 46 (zF 46) (zA 46) (zB 46) zR := rfl
set_option maxRecDepth 100000 in
theorem zca47 : zcs579.2 47 = c_el 47 (zF 47) (zA 47) (zB 47) zR := rfl
set_option maxRecDepth 100000 in
theorem zca48 : zcs579.2 48 = c_el 48 (zF 48) (zA 48) (zB 48) zR := rfl
set_option maxRecDepth 100000 in
theorem zca49 : zcs579.2 49 = c_el 49 (zF 49) (zA 49) (zB 49) zR := rfl
set_option maxRecDepth 100000 in
theorem zca50 : zcs579.2 50 = c_el 50 (zF 50) (zA 50) (zB 50) zR := rfl
set_option maxRecDepth 100000 in
theorem zca51 : zcs579.2 51 = c_el 51 (zF 51) (zA 51) (zB 51) zR := rfl
set_option maxRecDepth 100000 in
theorem zca52 : zcs579.2 52 = c_el 52 (zF 52) (zA 52) (zB 52) zR := rfl
set_option maxRecDepth 100000 in
theorem zca53 : zcs579.2 53 = c_el 53 (zF 53) (zA 53) (zB 53) zR := rfl
set_option maxRecDepth 100000 in
theorem zca54 : zcs579.2 54 = c_el 54 (zF 54) (zA 54) (zB 54) zR := rfl
set_option maxRecDepth 100000 in
theorem zca55 : zcs579.2 55 = c_el 55 (zF 55) (zA 55) (zB 55) zR := by
  have h : zcs579.2 55 = .inl (5, 3, .inr (.inr (.inr (.inr zcf19)))) := rfl
  rw [h, zcf19_r]
  rfl
set_option maxRecDepth 100000 in
theorem zca56 : zcs579.2 56 = c_el 56 (zF 56) (zA 56) (zB 56) zR := rfl
set_option maxRecDepth 100000 in
theorem zca57 : zcs579.2 57 = c_el 57 (zF 57) (zA 57) (zB 57) zR := rfl
set_option maxRecDepth 100000 in
theorem zca58 : zcs579.2 58 = c_el 58 (zF 58) (zA 58) (zB 58) zR := rfl
set_option maxRecDepth 100000 in
theorem zca59 : zcs579.2 59 = c_el 59 (zF 59) (zA 59) (zB 59) zR := rfl
set_option maxRecDepth 100000 in
theorem zca60 : zcs579.2 60 = c_el 60 (zF 60) (zA 60) (zB 60) zR := rfl
set_option maxRecDepth 100000 in
theorem zca61 : zcs579.2 61 = c_el 61 (zF 61) (zA 61) (zB 61) zR := rfl
set_option maxRecDepth 100000 in
theorem zca62 : zcs579.2 62 = c_el 62 (zF 62) (zA 62) (zB 62) zR := rfl
set_option maxRecDepth 100000 in
theorem zca63 : zcs579.2 63 = c_el 63 (zF 63) (zA 63) (zB 63) zR := rfl
set_option maxRecDepth 100000 in
theorem zca64 : zcs579.2 64 = c_el 64 (zF 64) (zA 64) (zB 64) zR := rfl
set_option maxRecDepth 100000 in
theorem zca65 : zcs579.2 65 = c_el 65 (zF 65) (zA 65) (zB 65) zR := rfl
set_option maxRecDepth 100000 in
theorem zca66 : zcs579.2 66 = c_el 66 (zF 66) (zA 66) (zB 66) zR := rfl
set_option maxRecDepth 100000 in
theorem zca67 : zcs579.2 67 = c_el 67 (zF 67) (zA 67) (zB 67) zR := rfl
set_option maxRecDepth 100000 in
theorem zca68 : zcs579.2 68 = c_el 68 (zF 68) (zA 68) (zB 68) zR := rfl
set_option maxRecDepth 100000 in
theorem zca69 : zcs579.2 69 = c_el 69 (zF 69) (zA 69) (zB 69) zR := rfl
set_option maxRecDepth 100000 in
theorem zca70 : zcs579.2 70 = c_el 70 (zF 70) (zA 70) (zB 70) zR := by
  have h : zcs579.2 70 = .inl (7, 6, .inr (.inr (.inr (.inr zcf25)))) := rfl
  rw [h, zcf25_r]
  rfl
set_option maxRecDepth 100000 in
theorem zca71 : zcs579.2 71 = c_el 71 (zF 71) (zA 71) (zB 71) zR := rfl
set_option maxRecDepth 100000 in
theorem zca72 : zcs579.2 72 = c_el 72 (zF 72) (zA 72) (zB 72) zR := rfl
set_option maxRecDepth 100000 in
theorem zca73 : zcs579.2 73 = c_el 73 (zF 73) (zA 73) (zB 73) zR := rfl
set_option maxRecDepth 100000 in
theorem zca74 : zcs579.2 74 = c_el 74 (zF 74) (zA 74) (zB 74) zR := rfl
set_option maxRecDepth 100000 in
theorem zca75 : zcs579.2 75 = c_el 75 (zF 75) (zA 75) (zB 75) zR := rfl
set_option maxRecDepth 100000 in
theorem zca76 : zcs579.2 76 = c_el 76 (zF 76) (zA 76) (zB 76) zR := rfl
set_option maxRecDepth 100000 in
theorem zca77 : zcs579.2 77 = c_el 77 (zF 77) (zA 77) (zB 77) zR := rfl
set_option maxRecDepth 100000 in
theorem zca78 : zcs579.2 78 = c_el 78 (zF 78) (zA 78) (zB 78) zR := rfl
set_option maxRecDepth 100000 in
theorem zca79 : zcs579.2 79 = c_el 79 (zF 79) (zA 79) (zB 79) zR := rfl
set_option maxRecDepth 100000 in
theorem zca80 : zcs579.2 80 = c_el 80 (zF 80) (zA 80) (zB 80) zR := rfl
set_option maxRecDepth 100000 in
theorem zca81 : zcs579.2 81 = c_el 81 (zF 81) (zA 81) (zB 81) zR := rfl
set_option maxRecDepth 100000 in
theorem zca82 : zcs579.2 82 = c_el 82 (zF 82) (zA 82) (zB 82) zR := rfl
set_option maxRecDepth 100000 in
theorem zca83 : zcs579.2 83 = c_el 83 (zF 83) (zA 83) (zB 83) zR := rfl
set_option maxRecDepth 100000 in
theorem zca84 : zcs579.2 84 = c_el 84 (zF 84) (zA 84) (zB 84) zR := rfl
set_option maxRecDepth 100000 in
theorem zca85 : zcs579.2 85 = c_el 85 (zF 85) (zA 85) (zB 85) zR := rfl
set_option maxRecDepth 100000 in
theorem zca86 : zcs579.2 86 = c_el 86 (zF 86) (zA 86) (zB 86) zR := rfl
set_option maxRecDepth 100000 in
theorem zca87 : zcs579.2 87 = c_el 87 (zF 87) (zA 87) (zB 87) zR := rfl
set_option maxRecDepth 100000 in
theorem zca88 : zcs579.2 88 = c_el 88 (zF 88) (zA 88) (zB 88) zR := rfl
set_option maxRecDepth 100000 in
theorem zca89 : zcs579.2 89 = c_el 89 (zF 89) (zA 89) (zB 89) zR := rfl
set_option maxRecDepth 100000 in
theorem zca90 : zcs579.2 90 = c_el 90 (zF 90) (zA 90) (zB 90) zR := rfl
set_option maxRecDepth 100000 in
theorem zca91 : zcs579.2 91 = c_el 91 (zF 91) (zA 91) (zB 91) zR := rfl
set_option maxRecDepth 100000 in
theorem zca92 : zcs579.2 92 = c_el 92 (zF 92) (zA 92) (zB 92) zR := rfl
set_option maxRecDepth 100000 in
theorem zca93 : zcs579.2 93 = c_el 93 (zF 93) (zA 93) (zB 93) zR := rfl
set_option maxRecDepth 100000 in
theorem zca94 : zcs579.2 94 = c_el 94 (zF 94) (zA 94) (zB 94) zR := rfl
set_option maxRecDepth 100000 in
theorem zca95 : zcs579.2 95 = c_el 95 (zF 95) (zA 95) (zB 95) zR := rfl
set_option maxRecDepth 100000 in
theorem zca96 : zcs579.2 96 = c_el 96 (zF 96) (zA 96) (zB 96) zR := rfl
set_option maxRecDepth 100000 in
theorem zca97 : zcs579.2 97 = c_el 97 (zF 97) (zA 97) (zB 97) zR := rfl
set_option maxRecDepth 100000 in
theorem zca98 : zcs579.2 98 = c_el 98 (zF 98) (zA 98) (zB 98) zR := rfl
set_option maxRecDepth 100000 in
theorem zca99 : zcs579.2 99 = c_el 99 (zF 99) (zA 99) (zB 99) zR := rfl
set_option maxRecDepth 100000 in
theorem zca100 : zcs579.2 100 = c_el 100 (zF 100) (zA 100) (zB 100) zR := rfl
set_option maxRecDepth 100000 in
theorem zca101 : zcs579.2 101 = c_el 101 (zF 101) (zA 101) (zB 101) zR := rfl
set_option maxRecDepth 100000 in
theorem zca102 : zcs579.2 102 = c_el 102 (zF 102) (zA 102) (zB 102) zR := rfl
set_option maxRecDepth 100000 in
theorem zca103 : zcs579.2 103 = c_el 103 (zF 103) (zA 103) (zB 103) zR := rfl
set_option maxRecDepth 100000 in
theorem zca104 : zcs579.2 104 = c_el 104 (zF 104) (zA 104) (zB 104) zR := rfl
set_option maxRecDepth 100000 in
theorem zca105 : zcs579.2 105 = c_el 105 (zF 105) (zA 105) (zB 105) zR := rfl
set_option maxRecDepth 100000 in
theorem zca106 : zcs579.2 106 = c_el 106 (zF 106) (zA 106) (zB 106) zR := rfl
set_option maxRecDepth 100000 in
theorem zca107 : zcs579.2 107 = c_el 107 (zF 107) (zA 107) (zB 107) zR := rfl
set_option maxRecDepth 100000 in
theorem zca108 : zcs579.2 108 = c_el 108 (zF 108) (zA 108) (zB 108) zR := rfl
set_option maxRecDepth 100000 in
theorem zca109 : zcs579.2 109 = c_el 109 (zF 109) (zA 109) (zB 109) zR := rfl
set_option maxRecDepth 100000 in
theorem zca110 : zcs579.2 110 = c_el 110 (zF 110) (zA 110) (zB 110) zR := rfl
set_option maxRecDepth 100000 in
theorem zca111 : zcs579.2 111 = c_el 111 (zF 111) (zA 111) (zB 111) zR := rfl
set_option maxRecDepth 100000 in
theorem zca112 : zcs579.2 112 = c_el 112 (zF 112) (zA 112) (zB 112) zR := rfl
set_option maxRecDepth 100000 in
theorem zca113 : zcs579.2 113 = c_el 113 (zF 113) (zA 113) (zB 113) zR := rfl
set_option maxRecDepth 100000 in
theorem zca114 : zcs579.2 114 = c_el 114 (zF 114) (zA 114) (zB 114) zR := rfl
set_option maxRecDepth 100000 in
theorem zca115 : zcs579.2 115 = c_el 115 (zF 115) (zA 115) (zB 115) zR := rfl
set_option maxRecDepth 100000 in
theorem zca116 : zcs579.2 116 = c_el 116 (zF 116) (zA 116) (zB 116) zR := rfl
set_option maxRecDepth 100000 in
theorem zca117 : zcs579.2 117 = c_el 117 (zF 117) (zA 117) (zB 117) zR := rfl
set_option maxRecDepth 100000 in
theorem zca118 : zcs579.2 118 = c_el 118 (zF 118) (zA 118) (zB 118) zR := rfl
set_option maxRecDepth 100000 in
theorem zca119 : zcs579.2 119 = c_el 119 (zF 119) (zA 119) (zB 119) zR := rfl
set_option maxRecDepth 100000 in
theorem zca120 : zcs579.2 120 = c_el 120 (zF 120) (zA 120) (zB 120) zR := rfl
set_option maxRecDepth 100000 in
theorem zca121 : zcs579.2 121 = c_el 121 (zF 121) (zA 121) (zB 121) zR := rfl
set_option maxRecDepth 100000 in
theorem zca122 : zcs579.2 122 = c_el 122 (zF 122) (zA 122) (zB 122) zR := rfl
set_option maxRecDepth 100000 in
theorem zca123 : zcs579.2 123 = c_el 123 (zF 123) (zA 123) (zB 123) zR := rfl
set_option maxRecDepth 100000 in
theorem zca124 : zcs579.2 124 = c_el 124 (zF 124) (zA 124) (zB 124) zR := by
  have h : zcs579.2 124 = .inl (6, 64, .inr (.inr (.inr (.inr zcf89)))) := rfl
  rw [h, zcf89_r]
  rfl
set_option maxRecDepth 100000 in
theorem zca125 : zcs579.2 125 = c_el 125 (zF 125) (zA 125) (zB 125) zR := rfl
set_option maxRecDepth 100000 in
theorem zca126 : zcs579.2 126 = c_el 126 (zF 126) (zA 126) (zB 126) zR := rfl
set_option maxRecDepth 100000 in
theorem zca127 : zcs579.2 127 = c_el 127 (zF 127) (zA 127) (zB 127) zR := rfl
set_option maxRecDepth 100000 in
theorem zca128 : zcs579.2 128 = c_el 128 (zF 128) (zA 128) (zB 128) zR := rfl
set_option maxRecDepth 100000 in
theorem zca129 : zcs579.2 129 = c_el 129 (zF 129) (zA 129) (zB 129) zR := rfl
set_option maxRecDepth 100000 in
theorem zca130 : zcs579.2 130 = c_el 130 (zF 130) (zA 130) (zB 130) zR := rfl
set_option maxRecDepth 100000 in
theorem zca131 : zcs579.2 131 = c_el 131 (zF 131) (zA 131) (zB 131) zR := rfl
set_option maxRecDepth 100000 in
theorem zca132 : zcs579.2 132 = c_el 132 (zF 132) (zA 132) (zB 132) zR := rfl
set_option maxRecDepth 100000 in
theorem zca133 : zcs579.2 133 = c_el 133 (zF 133) (zA 133) (zB 133) zR := rfl
set_option maxRecDepth 100000 in
theorem zca134 : zcs579.2 134 = c_el 134 (zF 134) (zA 134) (zB 134) zR := rfl
set_option maxRecDepth 100000 in
theorem zca135 : zcs579.2 135 = c_el 135 (zF 135) (zA 135) (zB 135) zR := rfl
set_option maxRecDepth 100000 in
theorem zca136 : zcs579.2 136 = c_el 136 (zF 136) (zA 136) (zB 136) zR := rfl
set_option maxRecDepth 100000 in
theorem zca137 : zcs579.2 137 = c_el 137 (zF 137) (zA 137) (zB 137) zR := rfl
set_option maxRecDepth 100000 in
theorem zca138 : zcs579.2 138 = c_el 138 (zF 138) (zA 138) (zB 138) zR := rfl
set_option maxRecDepth 100000 in
theorem zca139 : zcs579.2 139 = c_el 139 (zF 139) (zA 139) (zB 139) zR := rfl
set_option maxRecDepth 100000 in
theorem zca140 : zcs579.2 140 = c_el 140 (zF 140) (zA 140) (zB 140) zR := rfl
set_option maxRecDepth 100000 in
theorem zca141 : zcs579.2 141 = c_el 141 (zF 141) (zA 141) (zB 141) zR := rfl
set_option maxRecDepth 100000 in
theorem zca142 : zcs579.2 142 = c_el 142 (zF 142) (zA 142) (zB 142) zR := rfl
set_option maxRecDepth 100000 in
theorem zca143 : zcs579.2 143 = c_el 143 (zF 143) (zA 143) (zB 143) zR := rfl
set_option maxRecDepth 100000 in
theorem zca144 : zcs579.2 144 = c_el 144 (zF 144) (zA 144) (zB 144) zR := rfl
set_option maxRecDepth 100000 in
theorem zca145 : zcs579.2 145 = c_el 145 (zF 145) (zA 145) (zB 145) zR := rfl
set_option maxRecDepth 100000 in
theorem zca146 : zcs579.2 146 = c_el 146 (zF 146) (zA 146) (zB 146) zR := rfl
set_option maxRecDepth 100000 in
theorem zca147 : zcs579.2 147 = c_el 147 (zF 147) (zA 147) (zB 147) zR := rfl
set_option maxRecDepth 100000 in
theorem zca148 : zcs579.2 148 = c_el 148 (zF 148) (zA 148) (zB 148) zR := rfl
set_option maxRecDepth 100000 in
theorem zca149 : zcs579.2 149 = c_el 149 (zF 149) (zA 149) (zB 149) zR := rfl
set_option maxRecDepth 100000 in
theorem zca150 : zcs579.2 150 = c_el 150 (zF 150) (zA 150) (zB 150) zR := rfl
set_option maxRecDepth 100000 in
theorem zca151 : zcs579.2 151 = c_el 151 (zF 151) (zA 151) (zB 151) zR := rfl
set_option maxRecDepth 100000 in
theorem zca152 : zcs579.2 152 = c_el 152 (zF 152) (zA 152) (zB 152) zR := rfl
set_option maxRecDepth 100000 in
theorem zca153 : zcs579.2 153 = c_el 153 (zF 153) (zA 153) (zB 153) zR := rfl
set_option maxRecDepth 100000 in
theorem zca154 : zcs579.2 154 = c_el 154 (zF 154) (zA 154) (zB 154) zR := rfl
set_option maxRecDepth 100000 in
theorem zca155 : zcs579.2 155 = c_el 155 (zF 155) (zA 155) (zB 155) zR := rfl
set_option maxRecDepth 100000 in
theorem zca156 : zcs579.2 156 = c_el 156 (zF 156) (zA 156) (zB 156) zR := rfl
set_option maxRecDepth 100000 in
theorem zca157 : zcs579.2 157 = c_el 157 (zF 157) (zA 157) (zB 157) zR := rfl
set_option maxRecDepth 100000 in
theorem zca158 : zcs579.2 158 = c_el 158 (zF 158) (zA 158) (zB 158) zR := rfl
set_option maxRecDepth 100000 in
theorem zca159 : zcs579.2 159 = c_el 159 (zF 159) (zA 159) (zB 159) zR := rfl
set_option maxRecDepth 100000 in
theorem zca160 : zcs579.2 160 = c_el 160 (zF 160) (zA 160) (zB 160) zR := rfl
set_option maxRecDepth 100000 in
theorem zca161 : zcs579.2 161 = c_el 161 (zF 161) (zA 161) (zB 161) zR := rfl
set_option maxRecDepth 100000 in
theorem zca162 : zcs579.2 162 = c_el 162 (zF 162) (zA 162) (zB 162) zR := rfl
set_option maxRecDepth 100000 in
theorem zca163 : zcs579.2 163 = c_el 163 (zF 163) (zA 163) (zB 163) zR := rfl
set_option maxRecDepth 100000 in
theorem zca164 : zcs579.2 164 = c_el 164 (zF 164) (zA 164) (zB 164) zR := rfl
set_option maxRecDepth 100000 in
theorem zca165 : zcs579.2 165 = c_el 165 (zF 165) (zA 165) (zB 165) zR := rfl
set_option maxRecDepth 100000 in
theorem zca166 : zcs579.2 166 = c_el 166 (zF 166) (zA 166) (zB 166) zR := rfl
set_option maxRecDepth 100000 in
theorem zca167 : zcs579.2 167 = c_el 167 (zF 167) (zA 167) (zB 167) zR := rfl
set_option maxRecDepth 100000 in
theorem zca168 : zcs579.2 168 = c_el 168 (zF 168) (zA 168) (zB 168) zR := rfl
set_option maxRecDepth 100000 in
theorem zca169 : zcs579.2 169 = c_el 169 (zF 169) (zA 169) (zB 169) zR := rfl
set_option maxRecDepth 100000 in
theorem zca170 : zcs579.2 170 = c_el 170 (zF 170) (zA 170) (zB 170) zR := rfl
set_option maxRecDepth 100000 in
theorem zca171 : zcs579.2 171 = c_el 171 (zF 171) (zA 171) (zB 171) zR := rfl
set_option maxRecDepth 100000 in
theorem zca172 : zcs579.2 172 = c_el 172 (zF 172) (zA 172) (zB 172) zR := rfl
set_option maxRecDepth 100000 in
theorem zca173 : zcs579.2 173 = c_el 173 (zF 173) (zA 173) (zB 173) zR := rfl
set_option maxRecDepth 100000 in
theorem zca174 : zcs579.2 174 = c_el 174 (zF 174) (zA 174) (zB 174) zR := rfl
set_option maxRecDepth 100000 in
theorem zca175 : zcs579.2 175 = c_el 175 (zF 175) (zA 175) (zB 175) zR := rfl
set_option maxRecDepth 100000 in
theorem zca176 : zcs579.2 176 = c_el 176 (zF 176) (zA 176) (zB 176) zR := rfl
set_option maxRecDepth 100000 in
theorem zca177 : zcs579.2 177 = c_el 177 (zF 177) (zA 177) (zB 177) zR := rfl
set_option maxRecDepth 100000 in
theorem zca178 : zcs579.2 178 = c_el 178 (zF 178) (zA 178) (zB 178) zR := rfl
set_option maxRecDepth 100000 in
theorem zca179 : zcs579.2 179 = c_el 179 (zF 179) (zA 179) (zB 179) zR := rfl
set_option maxRecDepth 100000 in
theorem zca180 : zcs579.2 180 = c_el 180 (zF 180) (zA 180) (zB 180) zR := rfl
set_option maxRecDepth 100000 in
theorem zca181 : zcs579.2 181 = c_el 181 (zF 181) (zA 181) (zB 181) zR := rfl
set_option maxRecDepth 100000 in
theorem zca182 : zcs579.2 182 = c_el 182 (zF 182) (zA 182) (zB 182) zR := rfl
set_option maxRecDepth 100000 in
theorem zca183 : zcs579.2 183 = c_el 183 (zF 183) (zA 183) (zB 183) zR := rfl
set_option maxRecDepth 100000 in
theorem zca184 : zcs579.2 184 = c_el 184 (zF 184) (zA 184) (zB 184) zR := rfl
set_option maxRecDepth 100000 in
theorem zca185 : zcs579.2 185 = c_el 185 (zF 185) (zA 185) (zB 185) zR := rfl
set_option maxRecDepth 100000 in
theorem zca186 : zcs579.2 186 = c_el 186 (zF 186) (zA 186) (zB 186) zR := rfl
set_option maxRecDepth 100000 in
theorem zca187 : zcs579.2 187 = c_el 187 (zF 187) (zA 187) (zB 187) zR := rfl
set_option maxRecDepth 100000 in
theorem zca188 : zcs579.2 188 = c_el 188 (zF 188) (zA 188) (zB 188) zR := rfl
set_option maxRecDepth 100000 in
theorem zca189 : zcs579.2 189 = c_el 189 (zF 189) (zA 189) (zB 189) zR := rfl
set_option maxRecDepth 100000 in
theorem zca190 : zcs579.2 190 = c_el 190 (zF 190) (zA 190) (zB 190) zR := rfl
set_option maxRecDepth 100000 in
theorem zca191 : zcs579.2 191 = c_el 191 (zF 191) (zA 191) (zB 191) zR := rfl
set_option maxRecDepth 100000 in
theorem zca192 : zcs579.2 192 = c_el 192 (zF 192) (zA 192) (zB 192) zR := rfl
theorem zcl0 : ∀ k, k < 0 → zcs579.2 k = c_el k (zF k) (zA k) (zB k) zR := fun k hk => absurd hk (Nat.not_lt_zero k)
theorem zcl1 : ∀ k, k < 1 → zcs579.2 k = c_el k (zF k) (zA k) (zB k) zR := all_s (P := fun k => zcs579.2 k = c_el k (zF k) (zA k) (zB k) zR) zcl0 zca0
theorem zcl2 : ∀ k, k < 2 → zcs579.2 k = c_el k (zF k) (zA k) (zB k) zR := all_s (P := fun k => zcs579.2 k = c_el k (zF k) (zA k) (zB k) zR) zcl1 zca1
theorem zcl3 : ∀ k, k < 3 → zcs579.2 k = c_el k (zF k) (zA k) (zB k) zR := all_s (P := fun k => zcs579.2 k = c_el k (zF k) (zA k) (zB k) zR) zcl2 zca2
theorem zcl4 : ∀ k, k < 4 → zcs579.2 k = c_el k (zF k) (zA k) (zB k) zR := all_s (P := fun k => zcs579.2 k = c_el k (zF k) (zA k) (zB k) zR) zcl3 zca3
theorem zcl5 : ∀ k, k < 5 → zcs579.2 k = c_el k (zF k) (zA k) (zB k) zR := all_s (P := fun k => zcs579.2 k = c_el k (zF k) (zA k) (zB k) zR) zcl4 zca4
theorem zcl6 : ∀ k, k < 6 → zcs579.2 k = c_el k (zF k) (zA k) (zB k) zR := all_s (P := fun k => zcs579.2 k = c_el k (zF k) (zA k) (zB k) zR) zcl5 zca5
theorem zcl7 : ∀ k, k < 7 → zcs579.2 k = c_el k (zF k) (zA k) (zB k) zR := all_s (P := fun k => zcs579.2 k = c_el k (zF k) (zA k) (zB k) zR) zcl6 zca6
theorem zcl8 : ∀ k, k < 8 → zcs579.2 k = c_el k (zF k) (zA k) (zB k) zR := all_s (P := fun k => zcs579.2 k = c_el k (zF k) (zA k) (zB k) zR) zcl7 zca7
theorem zcl9 : ∀ k, k < 9 → zcs579.2 k = c_el k (zF k) (zA k) (zB k) zR := all_s (P := fun k => zcs579.2 k = c_el k (zF k) (zA k) (zB k) zR) zcl8 zca8
theorem zcl10 : ∀ k, k < 10 → zcs579.2 k = c_el k (zF k) (zA k) (zB k) zR := all_s (P := fun k => zcs579.2 k = c_el k (zF k) (zA k) (zB k) zR) zcl9 zca9
theorem zcl11 : ∀ k, k < 11 → zcs579.2 k = c_el k (zF k) (zA k) (zB k) zR := all_s (P := fun k => zcs579.2 k = c_el k (zF k) (zA k) (zB k) zR) zcl10 zca10
theorem zcl12 : ∀ k, k < 12 → zcs579.2 k = c_el k (zF k) (zA k) (zB k) zR := all_s (P := fun k => zcs579.2 k = c_el k (zF k) (zA k) (zB k) zR) zcl11 zca11
theorem zcl13 : ∀ k, k < 13 → zcs579.2 k = c_el k (zF k) (zA k) (zB k) zR := all_s (P := fun k => zcs579.2 k = c_el k (zF k) (zA k) (zB k) zR) zcl12 zca12
theorem zcl14 : ∀ k, k < 14 → zcs579.2 k = c_el k (zF k) (zA k) (zB k) zR := all_s (P := fun k => zcs579.2 k = c_el k (zF k) (zA k) (zB k) zR) zcl13 zca13
theorem zcl15 : ∀ k, k < 15 → zcs579.2 k = c_el k (zF k) (zA k) (zB k) zR := all_s (P := fun k => zcs579.2 k = c_el k (zF k) (zA k) (zB k) zR) zcl14 zca14
theorem zcl16 : ∀ k, k < 16 → zcs579.2 k = c_el k (zF k) (zA k) (zB k) zR := all_s (P := fun k => zcs579.2 k = c_el k (zF k) (zA k) (zB k) zR) zcl15 zca15
theorem zcl17 : ∀ k, k < 17 → zcs579.2 k = c_el k (zF k) (zA k) (zB k) zR := all_s (P := fun k => zcs579.2 k = c_el k (zF k) (zA k) (zB k) zR) zcl16 zca16
theorem zcl18 : ∀ k, k < 18 → zcs579.2 k = c_el k (zF k) (zA k) (zB k) zR := all_s (P := fun k => zcs579.2 k = c_el k (zF k) (zA k) (zB k) zR) zcl17 zca17
theorem zcl19 : ∀ k, k < 19 → zcs579.2 k = c_el k (zF k) (zA k) (zB k) zR := all_s (P := fun k => zcs579.2 k = c_el k (zF k) (zA k) (zB k) zR) zcl18 zca18
theorem zcl20 : ∀ k, k < 20 → zcs579.2 k = c_el k (zF k) (zA k) (zB k) zR := all_s (P := fun k => zcs579.2 k = c_el k (zF k) (zA k) (zB k) zR) zcl19 zca19
theorem zcl21 : ∀ k, k < 21 → zcs579.2 k = c_el k (zF k) (zA k) (zB k) zR := all_s (P := fun k => zcs579.2 k = c_el k (zF k) (zA k) (zB k) zR) zcl20 zca20
theorem zcl22 : ∀ k, k < 22 → zcs579.2 k = c_el k (zF k) (zA k) (zB k) zR := all_s (P := fun k => zcs579.2 k = c_el k (zF k) (zA k) (zB k) zR) zcl21 zca21
theorem zcl23 : ∀ k, k < 23 → zcs579.2 k = c_el k (zF k) (zA k) (zB k) zR := all_s (P := fun k => zcs579.2 k = c_el k (zF k) (zA k) (zB k) zR) zcl22 zca22
theorem zcl24 : ∀ k, k < 24 → zcs579.2 k = c_el k (zF k) (zA k) (zB k) zR := all_s (P := fun k => zcs579.2 k = c_el k (zF k) (zA k) (zB k) zR) zcl23 zca23
theorem zcl25 : ∀ k, k < 25 → zcs579.2 k = c_el k (zF k) (zA k) (zB k) zR := all_s (P := fun k => zcs579.2 k = c_el k (zF k) (zA k) (zB k) zR) zcl24 zca24
theorem zcl26 : ∀ k, k < 26 → zcs579.2 k = c_el k (zF k) (zA k) (zB k) zR := all_s (P := fun k => zcs579.2 k = c_el k (zF k) (zA k) (zB k) zR) zcl25 zca25
theorem zcl27 : ∀ k, k < 27 → zcs579.2 k = c_el k (zF k) (zA k) (zB k) zR := all_s (P := fun k => zcs579.2 k = c_el k (zF k) (zA k) (zB k) zR) zcl26 zca26
theorem zcl28 : ∀ k, k < 28 → zcs579.2 k = c_el k (zF k) (zA k) (zB k) zR := all_s (P := fun k => zcs579.2 k = c_el k (zF k) (zA k) (zB k) zR) zcl27 zca27
theorem zcl29 : ∀ k, k < 29 → zcs579.2 k = c_el k (zF k) (zA k) (zB k) zR := all_s (P := fun k => zcs579.2 k = c_el k (zF k) (zA k) (zB k) zR) zcl28 zca28
theorem zcl30 : ∀ k, k < 30 → zcs579.2 k = c_el k (zF k) (zA k) (zB k) zR := all_s (P := fun k => zcs579.2 k = c_el k (zF k) (zA k) (zB k) zR) zcl29 zca29
theorem zcl31 : ∀ k, k < 31 → zcs579.2 k = c_el k (zF k) (zA k) (zB k) zR := all_s (P := fun k => zcs579.2 k = c_el k (zF k) (zA k) (zB k) zR) zcl30 zca30
theorem zcl32 : ∀ k, k < 32 → zcs579.2 k = c_el k (zF k) (zA k) (zB k) zR := all_s (P := fun k => zcs579.2 k = c_el k (zF k) (zA k) (zB k) zR) zcl31 zca31
theorem zcl33 : ∀ k, k < 33 → zcs579.2 k = c_el k (zF k) (zA k) (zB k) zR := all_s (P := fun k => zcs579.2 k = c_el k (zF k) (zA k) (zB k) zR) zcl32 zca32
theorem zcl34 : ∀ k, k < 34 → zcs579.2 k = c_el k (zF k) (zA k) (zB k) zR := all_s (P := fun k => zcs579.2 k = c_el k (zF k) (zA k) (zB k) zR) zcl33 zca33
theorem zcl35 : ∀ k, k < 35 → zcs579.2 k = c_el k (zF k) (zA k) (zB k) zR := all_s (P := fun k => zcs579.2 k = c_el k (zF k) (zA k) (zB k) zR) zcl34 zca34
theorem zcl36 : ∀ k, k < 36 → zcs579.2 k = c_el k (zF k) (zA k) (zB k) zR := all_s (P := fun k => zcs579.2 k = c_el k (zF k) (zA k) (zB k) zR) zcl35 zca35
theorem zcl37 : ∀ k, k < 37 → zcs579.2 k = c_el k (zF k) (zA k) (zB k) zR := all_s (P := fun k => zcs579.2 k = c_el k (zF k) (zA k) (zB k) zR) zcl36 zca36
theorem zcl38 : ∀ k, k < 38 → zcs579.2 k = c_el k (zF k) (zA k) (zB k) zR := all_s (P := fun k => zcs579.2 k = c_el k (zF k) (zA k) (zB k) zR) zcl37 zca37
theorem zcl39 : ∀ k, k < 39 → zcs579.2 k = c_el k (zF k) (zA k) (zB k) zR := all_s (P := fun k => zcs579.2 k = c_el k (zF k) (zA k) (zB k) zR) zcl38 zca38
theorem zcl40 : ∀ k, k < 40 → zcs579.2 k = c_el k (zF k) (zA k) (zB k) zR := all_s (P := fun k => zcs579.2 k = c_el k (zF k) (zA k) (zB k) zR) zcl39 zca39
theorem zcl41 : ∀ k, k < 41 → zcs579.2 k = c_el k (zF k) (zA k) (zB k) zR := all_s (P := fun k => zcs579.2 k = c_el k (zF k) (zA k) (zB k) zR) zcl40 zca40
theorem zcl42 : ∀ k, k < 42 → zcs579.2 k = c_el k (zF k) (zA k) (zB k) zR := all_s (P := fun k => zcs579.2 k = c_el k (zF k) (zA k) (zB k) zR) zcl41 zca41
theorem zcl43 : ∀ k, k < 43 → zcs579.2 k = c_el k (zF k) (zA k) (zB k) zR := all_s (P := fun k => zcs579.2 k = c_el k (zF k) (zA k) (zB k) zR) zcl42 zca42
theorem zcl44 : ∀ k, k < 44 → zcs579.2 k = c_el k (zF k) (zA k) (zB k) zR := all_s (P := fun k => zcs579.2 k = c_el k (zF k) (zA k) (zB k) zR) zcl43 zca43
theorem zcl45 : ∀ k, k < 45 → zcs579.2 k = c_el k (zF k) (zA k) (zB k) zR := all_s (P := fun k => zcs579.2 k = c_el k (zF k) (zA k) (zB k) zR) zcl44 zca44
theorem zcl46 : ∀ k, k < 46 → zcs579.2 k = c_el k (zF k) (zA k) (zB k) zR := all_s (P := fun k => zcs579.2 k = c_el k (zF k) (zA k) (zB k) zR) zcl45 zca45
theorem zcl47 : ∀ k, k < 47 → zcs579.2 k = c_el k (zF k) (zA k) (zB k) zR := all_s (P := fun k => zcs579.2 k = c_el k (zF k) (zA k) (zB k) zR) zcl46 zca46
theorem zcl48 : ∀ k, k < 48 → zcs579.2 k = c_el k (zF k) (zA k) (zB k) zR := all_s (P := fun k => zcs579.2 k = c_el k (zF k) (zA k) (zB k) zR) zcl47 zca47
theorem zcl49 : ∀ k, k < 49 → zcs579.2 k = c_el k (zF k) (zA k) (zB k) zR := all_s (P := fun k => zcs579.2 k = c_el k (zF k) (zA k) (zB k) zR) zcl48 zca48
theorem zcl50 : ∀ k, k < 50 → zcs579.2 k = c_el k (zF k) (zA k) (zB k) zR := all_s (P := fun k => zcs579.2 k = c_el k (zF k) (zA k) (zB k) zR) zcl49 zca49
theorem zcl51 : ∀ k, k < 51 → zcs579.2 k = c_el k (zF k) (zA k) (zB k) zR := all_s (P := fun k => zcs579.2 k = c_el k (zF k) (zA k) (zB k) zR) zcl50 zca50
theorem zcl52 : ∀ k, k < 52 → zcs579.2 k = c_el k (zF k) (zA k) (zB k) zR := all_s (P := fun k => zcs579.2 k = c_el k (zF k) (zA k) (zB k) zR) zcl51 zca51
theorem zcl53 : ∀ k, k < 53 → zcs579.2 k = c_el k (zF k) (zA k) (zB k) zR := all_s (P := fun k => zcs579.2 k = c_el k (zF k) (zA k) (zB k) zR) zcl52 zca52
theorem zcl54 : ∀ k, k < 54 → zcs579.2 k = c_el k (zF k) (zA k) (zB k) zR := all_s (P := fun k => zcs579.2 k = c_el k (zF k) (zA k) (zB k) zR) zcl53 zca53
theorem zcl55 : ∀ k, k < 55 → zcs579.2 k = c_el k (zF k) (zA k) (zB k) zR := all_s (P := fun k => zcs579.2 k = c_el k (zF k) (zA k) (zB k) zR) zcl54 zca54
theorem zcl56 : ∀ k, k < 56 → zcs579.2 k = c_el k (zF k) (zA k) (zB k) zR := all_s (P := fun k => zcs579.2 k = c_el k (zF k) (zA k) (zB k) zR) zcl55 zca55
theorem zcl57 : ∀ k, k < 57 → zcs579.2 k = c_el k (zF k) (zA k) (zB k) zR := all_s (P := fun k => zcs579.2 k = c_el k (zF k) (zA k) (zB k) zR) zcl56 zca56
theorem zcl58 : ∀ k, k < 58 → zcs579.2 k = c_el k (zF k) (zA k) (zB k) zR := all_s (P := fun k => zcs579.2 k = c_el k (zF k) (zA k) (zB k) zR) zcl57 zca57
theorem zcl59 : ∀ k, k < 59 → zcs579.2 k = c_el k (zF k) (zA k) (zB k) zR := all_s (P := fun k => zcs579.2 k = c_el k (zF k) (zA k) (zB k) zR) zcl58 zca58
theorem zcl60 : ∀ k, k < 60 → zcs579.2 k = c_el k (zF k) (zA k) (zB k) zR := all_s (P := fun k => zcs579.2 k = c_el k (zF k) (zA k) (zB k) zR) zcl59 zca59
theorem zcl61 : ∀ k, k < 61 → zcs579.2 k = c_el k (zF k) (zA k) (zB k) zR := all_s (P := fun k => zcs579.2 k = c_el k (zF k) (zA k) (zB k) zR) zcl60 zca60
theorem zcl62 : ∀ k, k < 62 → zcs579.2 k = c_el k (zF k) (zA k) (zB k) zR := all_s (P := fun k => zcs579.2 k = c_el k (zF k) (zA k) (zB k) zR) zcl61 zca61
theorem zcl63 : ∀ k, k < 63 → zcs579.2 k = c_el k (zF k) (zA k) (zB k) zR := all_s (P := fun k => zcs579.2 k = c_el k (zF k) (zA k) (zB k) zR) zcl62 zca62
theorem zcl64 : ∀ k, k < 64 → zcs579.2 k = c_el k (zF k) (zA k) (zB k) zR := all_s (P := fun k => zcs579.2 k = c_el k (zF k) (zA k) (zB k) zR) zcl63 zca63
theorem zcl65 : ∀ k, k < 65 → zcs579.2 k = c_el k (zF k) (zA k) (zB k) zR := all_s (P := fun k => zcs579.2 k = c_el k (zF k) (zA k) (zB k) zR) zcl64 zca64
theorem zcl66 : ∀ k, k < 66 → zcs579.2 k = c_el k (zF k) (zA k) (zB k) zR := all_s (P := fun k => zcs579.2 k = c_el k (zF k) (zA k) (zB k) zR) zcl65 zca65
theorem zcl67 : ∀ k, k < 67 → zcs579.2 k = c_el k (zF k) (zA k) (zB k) zR := all_s (P := fun k => zcs579.2 k = c_el k (zF k) (zA k) (zB k) zR) zcl66 zca66
theorem zcl68 : ∀ k, k < 68 → zcs579.2 k = c_el k (zF k) (zA k) (zB k) zR := all_s (P := fun k => zcs579.2 k = c_el k (zF k) (zA k) (zB k) zR) zcl67 zca67
theorem zcl69 : ∀ k, k < 69 → zcs579.2 k = c_el k (zF k) (zA k) (zB k) zR := all_s (P := fun k => zcs579.2 k = c_el k (zF k) (zA k) (zB k) zR) zcl68 zca68
theorem zcl70 : ∀ k, k < 70 → zcs579.2 k = c_el k (zF k) (zA k) (zB k) zR := all_s (P := fun k => zcs579.2 k = c_el k (zF k) (zA k) (zB k) zR) zcl69 zca69
theorem zcl71 : ∀ k, k < 71 → zcs579.2 k = c_el k (zF k) (zA k) (zB k) zR := all_s (P := fun k => zcs579.2 k = c_el k (zF k) (zA k) (zB k) zR) zcl70 zca70
theorem zcl72 : ∀ k, k < 72 → zcs579.2 k = c_el k (zF k) (zA k) (zB k) zR := all_s (P := fun k => zcs579.2 k = c_el k (zF k) (zA k) (zB k) zR) zcl71 zca71
theorem zcl73 : ∀ k, k < 73 → zcs579.2 k = c_el k (zF k) (zA k) (zB k) zR := all_s (P := fun k => zcs579.2 k = c_el k (zF k) (zA k) (zB k) zR) zcl72 zca72
theorem zcl74 : ∀ k, k < 74 → zcs579.2 k = c_el k (zF k) (zA k) (zB k) zR := all_s (P := fun k => zcs579.2 k = c_el k (zF k) (zA k) (zB k) zR) zcl73 zca73
theorem zcl75 : ∀ k, k < 75 → zcs579.2 k = c_el k (zF k) (zA k) (zB k) zR := all_s (P := fun k => zcs579.2 k = c_el k (zF k) (zA k) (zB k) zR) zcl74 zca74
theorem zcl76 : ∀ k, k < 76 → zcs579.2 k = c_el k (zF k) (zA k) (zB k) zR := all_s (P := fun k => zcs579.2 k = c_el k (zF k) (zA k) (zB k) zR) zcl75 zca75
theorem zcl77 : ∀ k, k < 77 → zcs579.2 k = c_el k (zF k) (zA k) (zB k) zR := all_s (P := fun k => zcs579.2 k = c_el k (zF k) (zA k) (zB k) zR) zcl76 zca76
theorem zcl78 : ∀ k, k < 78 → zcs579.2 k = c_el k (zF k) (zA k) (zB k) zR := all_s (P := fun k => zcs579.2 k = c_el k (zF k) (zA k) (zB k) zR) zcl77 zca77
theorem zcl79 : ∀ k, k < 79 → zcs579.2 k = c_el k (zF k) (zA k) (zB k) zR := all_s (P := fun k => zcs579.2 k = c_el k (zF k) (zA k) (zB k) zR) zcl78 zca78
theorem zcl80 : ∀ k, k < 80 → zcs579.2 k = c_el k (zF k) (zA k) (zB k) zR := all_s (P := fun k => zcs579.2 k = c_el k (zF k) (zA k) (zB k) zR) zcl79 zca79
theorem zcl81 : ∀ k, k < 81 → zcs579.2 k = c_el k (zF k) (zA k) (zB k) zR := all_s (P := fun k => zcs579.2 k = c_el k (zF k) (zA k) (zB k) zR) zcl80 zca80
theorem zcl82 : ∀ k, k < 82 → zcs579.2 k = c_el k (zF k) (zA k) (zB k) zR := all_s (P := fun k => zcs579.2 k = c_el k (zF k) (zA k) (zB k) zR) zcl81 zca81
theorem zcl83 : ∀ k, k < 83 → zcs579.2 k = c_el k (zF k) (zA k) (zB k) zR := all_s (P := fun k => zcs579.2 k = c_el k (zF k) (zA k) (zB k) zR) zcl82 zca82
theorem zcl84 : ∀ k, k < 84 → zcs579.2 k = c_el k (zF k) (zA k) (zB k) zR := all_s (P := fun k => zcs579.2 k = c_el k (zF k) (zA k) (zB k) zR) zcl83 zca83
theorem zcl85 : ∀ k, k < 85 → zcs579.2 k = c_el k (zF k) (zA k) (zB k) zR := all_s (P := fun k => zcs579.2 k = c_el k (zF k) (zA k) (zB k) zR) zcl84 zca84
theorem zcl86 : ∀ k, k < 86 → zcs579.2 k = c_el k (zF k) (zA k) (zB k) zR := all_s (P := fun k => zcs579.2 k = c_el k (zF k) (zA k) (zB k) zR) zcl85 zca85
theorem zcl87 : ∀ k, k < 87 → zcs579.2 k = c_el k (zF k) (zA k) (zB k) zR := all_s (P := fun k => zcs579.2 k = c_el k (zF k) (zA k) (zB k) zR) zcl86 zca86
theorem zcl88 : ∀ k, k < 88 → zcs579.2 k = c_el k (zF k) (zA k) (zB k) zR := all_s (P := fun k => zcs579.2 k = c_el k (zF k) (zA k) (zB k) zR) zcl87 zca87
theorem zcl89 : ∀ k, k < 89 → zcs579.2 k = c_el k (zF k) (zA k) (zB k) zR := all_s (P := fun k => zcs579.2 k = c_el k (zF k) (zA k) (zB k) zR) zcl88 zca88
theorem zcl90 : ∀ k, k < 90 → zcs579.2 k = c_el k (zF k) (zA k) (zB k) zR := all_s (P := fun k => zcs579.2 k = c_el k (zF k) (zA k) (zB k) zR) zcl89 zca89
theorem zcl91 : ∀ k, k < 91 → zcs579.2 k = c_el k (zF k) (zA k) (zB k) zR := all_s (P := fun k => zcs579.2 k = c_el k (zF k) (zA k) (zB k) zR) zcl90 zca90
theorem zcl92 : ∀ k, k < 92 → zcs579.2 k = c_el k (zF k) (zA k) (zB k) zR := all_s (P := fun k => zcs579.2 k = c_el k (zF k) (zA k) (zB k) zR) zcl91 zca91
theorem zcl93 : ∀ k, k < 93 → zcs579.2 k = c_el k (zF k) (zA k) (zB k) zR := all_s (P := fun k => zcs579.2 k = c_el k (zF k) (zA k) (zB k) zR) zcl92 zca92
theorem zcl94 : ∀ k, k < 94 → zcs579.2 k = c_el k (zF k) (zA k) (zB k) zR := all_s (P := fun k => zcs579.2 k = c_el k (zF k) (zA k) (zB k) zR) zcl93 zca93
theorem zcl95 : ∀ k, k < 95 → zcs579.2 k = c_el k (zF k) (zA k) (zB k) zR := all_s (P := fun k => zcs579.2 k = c_el k (zF k) (zA k) (zB k) zR) zcl94 zca94
theorem zcl96 : ∀ k, k < 96 → zcs579.2 k = c_el k (zF k) (zA k) (zB k) zR := all_s (P := fun k => zcs579.2 k = c_el k (zF k) (zA k) (zB k) zR) zcl95 zca95
theorem zcl97 : ∀ k, k < 97 → zcs579.2 k = c_el k (zF k) (zA k) (zB k) zR := all_s (P := fun k => zcs579.2 k = c_el k (zF k) (zA k) (zB k) zR) zcl96 zca96
theorem zcl98 : ∀ k, k < 98 → zcs579.2 k = c_el k (zF k) (zA k) (zB k) zR := all_s (P := fun k => zcs579.2 k = c_el k (zF k) (zA k) (zB k) zR) zcl97 zca97
theorem zcl99 : ∀ k, k < 99 → zcs579.2 k = c_el k (zF k) (zA k) (zB k) zR := all_s (P := fun k => zcs579.2 k = c_el k (zF k) (zA k) (zB k) zR) zcl98 zca98
theorem zcl100 : ∀ k, k < 100 → zcs579.2 k = c_el k (zF k) (zA k) (zB k) zR := all_s (P := fun k => zcs579.2 k = c_el k (zF k) (zA k) (zB k) zR) zcl99 zca99
theorem zcl101 : ∀ k, k < 101 → zcs579.2 k = c_el k (zF k) (zA k) (zB k) zR := all_s (P := fun k => zcs579.2 k = c_el k (zF k) (zA k) (zB k) zR) zcl100 zca100
theorem zcl102 : ∀ k, k < 102 → zcs579.2 k = c_el k (zF k) (zA k) (zB k) zR := all_s (P := fun k => zcs579.2 k = c_el k (zF k) (zA k) (zB k) zR) zcl101 zca101
theorem zcl103 : ∀ k, k < 103 → zcs579.2 k = c_el k (zF k) (zA k) (zB k) zR := all_s (P := fun k => zcs579.2 k = c_el k (zF k) (zA k) (zB k) zR) zcl102 zca102
theorem zcl104 : ∀ k, k < 104 → zcs579.2 k = c_el k (zF k) (zA k) (zB k) zR := all_s (P := fun k => zcs579.2 k = c_el k (zF k) (zA k) (zB k) zR) zcl103 zca103
theorem zcl105 : ∀ k, k < 105 → zcs579.2 k = c_el k (zF k) (zA k) (zB k) zR := all_s (P := fun k => zcs579.2 k = c_el k (zF k) (zA k) (zB k) zR) zcl104 zca104
theorem zcl106 : ∀ k, k < 106 → zcs579.2 k = c_el k (zF k) (zA k) (zB k) zR := all_s (P := fun k => zcs579.2 k = c_el k (zF k) (zA k) (zB k) zR) zcl105 zca105
theorem zcl107 : ∀ k, k < 107 → zcs579.2 k = c_el k (zF k) (zA k) (zB k) zR := all_s (P := fun k => zcs579.2 k = c_el k (zF k) (zA k) (zB k) zR) zcl106 zca106
theorem zcl108 : ∀ k, k < 108 → zcs579.2 k = c_el k (zF k) (zA k) (zB k) zR := all_s (P := fun k => zcs579.2 k = c_el k (zF k) (zA k) (zB k) zR) zcl107 zca107
theorem zcl109 : ∀ k, k < 109 → zcs579.2 k = c_el k (zF k) (zA k) (zB k) zR := all_s (P := fun k => zcs579.2 k = c_el k (zF k) (zA k) (zB k) zR) zcl108 zca108
theorem zcl110 : ∀ k, k < 110 → zcs579.2 k = c_el k (zF k) (zA k) (zB k) zR := all_s (P := fun k => zcs579.2 k = c_el k (zF k) (zA k) (zB k) zR) zcl109 zca109
theorem zcl111 : ∀ k, k < 111 → zcs579.2 k = c_el k (zF k) (zA k) (zB k) zR := all_s (P := fun k => zcs579.2 k = c_el k (zF k) (zA k) (zB k) zR) zcl110 zca110
theorem zcl112 : ∀ k, k < 112 → zcs579.2 k = c_el k (zF k) (zA k) (zB k) zR := all_s (P := fun k => zcs579.2 k = c_el k (zF k) (zA k) (zB k) zR) zcl111 zca111
theorem zcl113 : ∀ k, k < 113 → zcs579.2 k = c_el k (zF k) (zA k) (zB k) zR := all_s (P := fun k => zcs579.2 k = c_el k (zF k) (zA k) (zB k) zR) zcl112 zca112
theorem zcl114 : ∀ k, k < 114 → zcs579.2 k = c_el k (zF k) (zA k) (zB k) zR := all_s (P := fun k => zcs579.2 k = c_el k (zF k) (zA k) (zB k) zR) zcl113 zca113
theorem zcl115 : ∀ k, k < 115 → zcs579.2 k = c_el k (zF k) (zA k) (zB k) zR := all_s (P := fun k => zcs579.2 k = c_el k (zF k) (zA k) (zB k) zR) zcl114 zca114
theorem zcl116 : ∀ k, k < 116 → zcs579.2 k = c_el k (zF k) (zA k) (zB k) zR := all_s (P := fun k => zcs579.2 k = c_el k (zF k) (zA k) (zB k) zR) zcl115 zca115
theorem zcl117 : ∀ k, k < 117 → zcs579.2 k = c_el k (zF k) (zA k) (zB k) zR := all_s (P := fun k => zcs579.2 k = c_el k (zF k) (zA k) (zB k) zR) zcl116 zca116
theorem zcl118 : ∀ k, k < 118 → zcs579.2 k = c_el k (zF k) (zA k) (zB k) zR := all_s (P := fun k => zcs579.2 k = c_el k (zF k) (zA k) (zB k) zR) zcl117 zca117
theorem zcl119 : ∀ k, k < 119 → zcs579.2 k = c_el k (zF k) (zA k) (zB k) zR := all_s (P := fun k => zcs579.2 k = c_el k (zF k) (zA k) (zB k) zR) zcl118 zca118
theorem zcl120 : ∀ k, k < 120 → zcs579.2 k = c_el k (zF k) (zA k) (zB k) zR := all_s (P := fun k => zcs579.2 k = c_el k (zF k) (zA k) (zB k) zR) zcl119 zca119
theorem zcl121 : ∀ k, k < 121 → zcs579.2 k = c_el k (zF k) (zA k) (zB k) zR := all_s (P := fun k => zcs579.2 k = c_el k (zF k) (zA k) (zB k) zR) zcl120 zca120
theorem zcl122 : ∀ k, k < 122 → zcs579.2 k = c_el k (zF k) (zA k) (zB k) zR := all_s (P := fun k => zcs579.2 k = c_el k (zF k) (zA k) (zB k) zR) zcl121 zca121
theorem zcl123 : ∀ k, k < 123 → zcs579.2 k = c_el k (zF k) (zA k) (zB k) zR := all_s (P := fun k => zcs579.2 k = c_el k (zF k) (zA k) (zB k) zR) zcl122 zca122
theorem zcl124 : ∀ k, k < 124 → zcs579.2 k = c_el k (zF k) (zA k) (zB k) zR := all_s (P := fun k => zcs579.2 k = c_el k (zF k) (zA k) (zB k) zR) zcl123 zca123
theorem zcl125 : ∀ k, k < 125 → zcs579.2 k = c_el k (zF k) (zA k) (zB k) zR := all_s (P := fun k => zcs579.2 k = c_el k (zF k) (zA k) (zB k) zR) zcl124 zca124
theorem zcl126 : ∀ k, k < 126 → zcs579.2 k = c_el k (zF k) (zA k) (zB k) zR := all_s (P := fun k => zcs579.2 k = c_el k (zF k) (zA k) (zB k) zR) zcl125 zca125
theorem zcl127 : ∀ k, k < 127 → zcs579.2 k = c_el k (zF k) (zA k) (zB k) zR := all_s (P := fun k => zcs579.2 k = c_el k (zF k) (zA k) (zB k) zR) zcl126 zca126
theorem zcl128 : ∀ k, k < 128 → zcs579.2 k = c_el k (zF k) (zA k) (zB k) zR := all_s (P := fun k => zcs579.2 k = c_el k (zF k) (zA k) (zB k) zR) zcl127 zca127
theorem zcl129 : ∀ k, k < 129 → zcs579.2 k = c_el k (zF k) (zA k) (zB k) zR := all_s (P := fun k => zcs579.2 k = c_el k (zF k) (zA k) (zB k) zR) zcl128 zca128
theorem zcl130 : ∀ k, k < 130 → zcs579.2 k = c_el k (zF k) (zA k) (zB k) zR := all_s (P := fun k => zcs579.2 k = c_el k (zF k) (zA k) (zB k) zR) zcl129 zca129
theorem zcl131 : ∀ k, k < 131 → zcs579.2 k = c_el k (zF k) (zA k) (zB k) zR := all_s (P := fun k => zcs579.2 k = c_el k (zF k) (zA k) (zB k) zR) zcl130 zca130
theorem zcl132 : ∀ k, k < 132 → zcs579.2 k = c_el k (zF k) (zA k) (zB k) zR := all_s (P := fun k => zcs579.2 k = c_el k (zF k) (zA k) (zB k) zR) zcl131 zca131
theorem zcl133 : ∀ k, k < 133 → zcs579.2 k = c_el k (zF k) (zA k) (zB k) zR := all_s (P := fun k => zcs579.2 k = c_el k (zF k) (zA k) (zB k) zR) zcl132 zca132
theorem zcl134 : ∀ k, k < 134 → zcs579.2 k = c_el k (zF k) (zA k) (zB k) zR := all_s (P := fun k => zcs579.2 k = c_el k (zF k) (zA k) (zB k) zR) zcl133 zca133
theorem zcl135 : ∀ k, k < 135 → zcs579.2 k = c_el k (zF k) (zA k) (zB k) zR := all_s (P := fun k => zcs579.2 k = c_el k (zF k) (zA k) (zB k) zR) zcl134 zca134
theorem zcl136 : ∀ k, k < 136 → zcs579.2 k = c_el k (zF k) (zA k) (zB k) zR := all_s (P := fun k => zcs579.2 k = c_el k (zF k) (zA k) (zB k) zR) zcl135 zca135
theorem zcl137 : ∀ k, k < 137 → zcs579.2 k = c_el k (zF k) (zA k) (zB k) zR := all_s (P := fun k => zcs579.2 k = c_el k (zF k) (zA k) (zB k) zR) zcl136 zca136
theorem zcl138 : ∀ k, k < 138 → zcs579.2 k = c_el k (zF k) (zA k) (zB k) zR := all_s (P := fun k => zcs579.2 k = c_el k (zF k) (zA k) (zB k) zR) zcl137 zca137
theorem zcl139 : ∀ k, k < 139 → zcs579.2 k = c_el k (zF k) (zA k) (zB k) zR := all_s (P := fun k => zcs579.2 k = c_el k (zF k) (zA k) (zB k) zR) zcl138 zca138
theorem zcl140 : ∀ k, k < 140 → zcs579.2 k = c_el k (zF k) (zA k) (zB k) zR := all_s (P := fun k => zcs579.2 k = c_el k (zF k) (zA k) (zB k) zR) zcl139 zca139
theorem zcl141 : ∀ k, k < 141 → zcs579.2 k = c_el k (zF k) (zA k) (zB k) zR := all_s (P := fun k => zcs579.2 k = c_el k (zF k) (zA k) (zB k) zR) zcl140 zca140
theorem zcl142 : ∀ k, k < 142 → zcs579.2 k = c_el k (zF k) (zA k) (zB k) zR := all_s (P := fun k => zcs579.2 k = c_el k (zF k) (zA k) (zB k) zR) zcl141 zca141
theorem zcl143 : ∀ k, k < 143 → zcs579.2 k = c_el k (zF k) (zA k) (zB k) zR := all_s (P := fun k => zcs579.2 k = c_el k (zF k) (zA k) (zB k) zR) zcl142 zca142
theorem zcl144 : ∀ k, k < 144 → zcs579.2 k = c_el k (zF k) (zA k) (zB k) zR := all_s (P := fun k => zcs579.2 k = c_el k (zF k) (zA k) (zB k) zR) zcl143 zca143
theorem zcl145 : ∀ k, k < 145 → zcs579.2 k = c_el k (zF k) (zA k) (zB k) zR := all_s (P := fun k => zcs579.2 k = c_el k (zF k) (zA k) (zB k) zR) zcl144 zca144
theorem zcl146 : ∀ k, k < 146 → zcs579.2 k = c_el k (zF k) (zA k) (zB k) zR := all_s (P := fun k => zcs579.2 k = c_el k (zF k) (zA k) (zB k) zR) zcl145 zca145
theorem zcl147 : ∀ k, k < 147 → zcs579.2 k = c_el k (zF k) (zA k) (zB k) zR := all_s (P := fun k => zcs579.2 k = c_el k (zF k) (zA k) (zB k) zR) zcl146 zca146
theorem zcl148 : ∀ k, k < 148 → zcs579.2 k = c_el k (zF k) (zA k) (zB k) zR := all_s (P := fun k => zcs579.2 k = c_el k (zF k) (zA k) (zB k) zR) zcl147 zca147
theorem zcl149 : ∀ k, k < 149 → zcs579.2 k = c_el k (zF k) (zA k) (zB k) zR := all_s (P := fun k => zcs579.2 k = c_el k (zF k) (zA k) (zB k) zR) zcl148 zca148
theorem zcl150 : ∀ k, k < 150 → zcs579.2 k = c_el k (zF k) (zA k) (zB k) zR := all_s (P := fun k => zcs579.2 k = c_el k (zF k) (zA k) (zB k) zR) zcl149 zca149
theorem zcl151 : ∀ k, k < 151 → zcs579.2 k = c_el k (zF k) (zA k) (zB k) zR := all_s (P := fun k => zcs579.2 k = c_el k (zF k) (zA k) (zB k) zR) zcl150 zca150
theorem zcl152 : ∀ k, k < 152 → zcs579.2 k = c_el k (zF k) (zA k) (zB k) zR := all_s (P := fun k => zcs579.2 k = c_el k (zF k) (zA k) (zB k) zR) zcl151 zca151
theorem zcl153 : ∀ k, k < 153 → zcs579.2 k = c_el k (zF k) (zA k) (zB k) zR := all_s (P := fun k => zcs579.2 k = c_el k (zF k) (zA k) (zB k) zR) zcl152 zca152
theorem zcl154 : ∀ k, k < 154 → zcs579.2 k = c_el k (zF k) (zA k) (zB k) zR := all_s (P := fun k => zcs579.2 k = c_el k (zF k) (zA k) (zB k) zR) zcl153 zca153
theorem zcl155 : ∀ k, k < 155 → zcs579.2 k = c_el k (zF k) (zA k) (zB k) zR := all_s (P := fun k => zcs579.2 k = c_el k (zF k) (zA k) (zB k) zR) zcl154 zca154
theorem zcl156 : ∀ k, k < 156 → zcs579.2 k = c_el k (zF k) (zA k) (zB k) zR := all_s (P := fun k => zcs579.2 k = c_el k (zF k) (zA k) (zB k) zR) zcl155 zca155
theorem zcl157 : ∀ k, k < 157 → zcs579.2 k = c_el k (zF k) (zA k) (zB k) zR := all_s (P := fun k => zcs579.2 k = c_el k (zF k) (zA k) (zB k) zR) zcl156 zca156
theorem zcl158 : ∀ k, k < 158 → zcs579.2 k = c_el k (zF k) (zA k) (zB k) zR := all_s (P := fun k => zcs579.2 k = c_el k (zF k) (zA k) (zB k) zR) zcl157 zca157
theorem zcl159 : ∀ k, k < 159 → zcs579.2 k = c_el k (zF k) (zA k) (zB k) zR := all_s (P := fun k => zcs579.2 k = c_el k (zF k) (zA k) (zB k) zR) zcl158 zca158
theorem zcl160 : ∀ k, k < 160 → zcs579.2 k = c_el k (zF k) (zA k) (zB k) zR := all_s (P := fun k => zcs579.2 k = c_el k (zF k) (zA k) (zB k) zR) zcl159 zca159
theorem zcl161 : ∀ k, k < 161 → zcs579.2 k = c_el k (zF k) (zA k) (zB k) zR := all_s (P := fun k => zcs579.2 k = c_el k (zF k) (zA k) (zB k) zR) zcl160 zca160
theorem zcl162 : ∀ k, k < 162 → zcs579.2 k = c_el k (zF k) (zA k) (zB k) zR := all_s (P := fun k => zcs579.2 k = c_el k (zF k) (zA k) (zB k) zR) zcl161 zca161
theorem zcl163 : ∀ k, k < 163 → zcs579.2 k = c_el k (zF k) (zA k) (zB k) zR := all_s (P := fun k => zcs579.2 k = c_el k (zF k) (zA k) (zB k) zR) zcl162 zca162
theorem zcl164 : ∀ k, k < 164 → zcs579.2 k = c_el k (zF k) (zA k) (zB k) zR := all_s (P := fun k => zcs579.2 k = c_el k (zF k) (zA k) (zB k) zR) zcl163 zca163
theorem zcl165 : ∀ k, k < 165 → zcs579.2 k = c_el k (zF k) (zA k) (zB k) zR := all_s (P := fun k => zcs579.2 k = c_el k (zF k) (zA k) (zB k) zR) zcl164 zca164
theorem zcl166 : ∀ k, k < 166 → zcs579.2 k = c_el k (zF k) (zA k) (zB k) zR := all_s (P := fun k => zcs579.2 k = c_el k (zF k) (zA k) (zB k) zR) zcl165 zca165
theorem zcl167 : ∀ k, k < 167 → zcs579.2 k = c_el k (zF k) (zA k) (zB k) zR := all_s (P := fun k => zcs579.2 k = c_el k (zF k) (zA k) (zB k) zR) zcl166 zca166
theorem zcl168 : ∀ k, k < 168 → zcs579.2 k = c_el k (zF k) (zA k) (zB k) zR := all_s (P := fun k => zcs579.2 k = c_el k (zF k) (zA k) (zB k) zR) zcl167 zca167
theorem zcl169 : ∀ k, k < 169 → zcs579.2 k = c_el k (zF k) (zA k) (zB k) zR := all_s (P := fun k => zcs579.2 k = c_el k (zF k) (zA k) (zB k) zR) zcl168 zca168
theorem zcl170 : ∀ k, k < 170 → zcs579.2 k = c_el k (zF k) (zA k) (zB k) zR := all_s (P := fun k => zcs579.2 k = c_el k (zF k) (zA k) (zB k) zR) zcl169 zca169
theorem zcl171 : ∀ k, k < 171 → zcs579.2 k = c_el k (zF k) (zA k) (zB k) zR := all_s (P := fun k => zcs579.2 k = c_el k (zF k) (zA k) (zB k) zR) zcl170 zca170
theorem zcl172 : ∀ k, k < 172 → zcs579.2 k = c_el k (zF k) (zA k) (zB k) zR := all_s (P := fun k => zcs579.2 k = c_el k (zF k) (zA k) (zB k) zR) zcl171 zca171
theorem zcl173 : ∀ k, k < 173 → zcs579.2 k = c_el k (zF k) (zA k) (zB k) zR := all_s (P := fun k => zcs579.2 k = c_el k (zF k) (zA k) (zB k) zR) zcl172 zca172
theorem zcl174 : ∀ k, k < 174 → zcs579.2 k = c_el k (zF k) (zA k) (zB k) zR := all_s (P := fun k => zcs579.2 k = c_el k (zF k) (zA k) (zB k) zR) zcl173 zca173
theorem zcl175 : ∀ k, k < 175 → zcs579.2 k = c_el k (zF k) (zA k) (zB k) zR := all_s (P := fun k => zcs579.2 k = c_el k (zF k) (zA k) (zB k) zR) zcl174 zca174
theorem zcl176 : ∀ k, k < 176 → zcs579.2 k = c_el k (zF k) (zA k) (zB k) zR := all_s (P := fun k => zcs579.2 k = c_el k (zF k) (zA k) (zB k) zR) zcl175 zca175
theorem zcl177 : ∀ k, k < 177 → zcs579.2 k = c_el k (zF k) (zA k) (zB k) zR := all_s (P := fun k => zcs579.2 k = c_el k (zF k) (zA k) (zB k) zR) zcl176 zca176
theorem zcl178 : ∀ k, k < 178 → zcs579.2 k = c_el k (zF k) (zA k) (zB k) zR := all_s (P := fun k => zcs579.2 k = c_el k (zF k) (zA k) (zB k) zR) zcl177 zca177
theorem zcl179 : ∀ k, k < 179 → zcs579.2 k = c_el k (zF k) (zA k) (zB k) zR := all_s (P := fun k => zcs579.2 k = c_el k (zF k) (zA k) (zB k) zR) zcl178 zca178
theorem zcl180 : ∀ k, k < 180 → zcs579.2 k = c_el k (zF k) (zA k) (zB k) zR := all_s (P := fun k => zcs579.2 k = c_el k (zF k) (zA k) (zB k) zR) zcl179 zca179
theorem zcl181 : ∀ k, k < 181 → zcs579.2 k = c_el k (zF k) (zA k) (zB k) zR := all_s (P := fun k => zcs579.2 k = c_el k (zF k) (zA k) (zB k) zR) zcl180 zca180
theorem zcl182 : ∀ k, k < 182 → zcs579.2 k = c_el k (zF k) (zA k) (zB k) zR := all_s (P := fun k => zcs579.2 k = c_el k (zF k) (zA k) (zB k) zR) zcl181 zca181
theorem zcl183 : ∀ k, k < 183 → zcs579.2 k = c_el k (zF k) (zA k) (zB k) zR := all_s (P := fun k => zcs579.2 k = c_el k (zF k) (zA k) (zB k) zR) zcl182 zca182
theorem zcl184 : ∀ k, k < 184 → zcs579.2 k = c_el k (zF k) (zA k) (zB k) zR := all_s (P := fun k => zcs579.2 k = c_el k (zF k) (zA k) (zB k) zR) zcl183 zca183
theorem zcl185 : ∀ k, k < 185 → zcs579.2 k = c_el k (zF k) (zA k) (zB k) zR := all_s (P := fun k => zcs579.2 k = c_el k (zF k) (zA k) (zB k) zR) zcl184 zca184
theorem zcl186 : ∀ k, k < 186 → zcs579.2 k = c_el k (zF k) (zA k) (zB k) zR := all_s (P := fun k => zcs579.2 k = c_el k (zF k) (zA k) (zB k) zR) zcl185 zca185
theorem zcl187 : ∀ k, k < 187 → zcs579.2 k = c_el k (zF k) (zA k) (zB k) zR := all_s (P := fun k => zcs579.2 k = c_el k (zF k) (zA k) (zB k) zR) zcl186 zca186
theorem zcl188 : ∀ k, k < 188 → zcs579.2 k = c_el k (zF k) (zA k) (zB k) zR := all_s (P := fun k => zcs579.2 k = c_el k (zF k) (zA k) (zB k) zR) zcl187 zca187
theorem zcl189 : ∀ k, k < 189 → zcs579.2 k = c_el k (zF k) (zA k) (zB k) zR := all_s (P := fun k => zcs579.2 k = c_el k (zF k) (zA k) (zB k) zR) zcl188 zca188
theorem zcl190 : ∀ k, k < 190 → zcs579.2 k = c_el k (zF k) (zA k) (zB k) zR := all_s (P := fun k => zcs579.2 k = c_el k (zF k) (zA k) (zB k) zR) zcl189 zca189
theorem zcl191 : ∀ k, k < 191 → zcs579.2 k = c_el k (zF k) (zA k) (zB k) zR := all_s (P := fun k => zcs579.2 k = c_el k (zF k) (zA k) (zB k) zR) zcl190 zca190
theorem zcl192 : ∀ k, k < 192 → zcs579.2 k = c_el k (zF k) (zA k) (zB k) zR := all_s (P := fun k => zcs579.2 k = c_el k (zF k) (zA k) (zB k) zR) zcl191 zca191
theorem zcl193 : ∀ k, k < 193 → zcs579.2 k = c_el k (zF k) (zA k) (zB k) zR := all_s (P := fun k => zcs579.2 k = c_el k (zF k) (zA k) (zB k) zR) zcl192 zca192
theorem ckd_d : ∀ (l : List Nat) (n : Nat), l.length ≤ n → l.getD n 99 = 99
  | [], _, _ => rfl
  | _ :: _, 0, h => absurd h (Nat.not_succ_le_zero _)
  | _ :: l, n + 1, h => ckd_d l n (Nat.le_of_succ_le_succ h)
theorem zc_mk : zcs579 = mkC zF zA zB zR := by
  refine Prod.ext rfl (funext fun k => ?_)
  by_cases h : k < 193
  · exact zcl193 k h
  · rw [zcd579 (by omega)]
    have e : c_kd k = 99 := ckd_d _ k (by show 193 ≤ k; omega)
    show _ = c_el k (zF k) (zA k) (zB k) zR
    unfold c_el
    rw [e]
    rfl
