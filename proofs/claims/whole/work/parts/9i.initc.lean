/-! ===== the constructors, step by step ===== -/
theorem in_b {α β : Type} {a : Option α} {x : α} {f : α → Option β} {r : Option β} (h : a = some x) (g : f x = r) : a.bind f = r := by
  rw [h]
  exact g
theorem in_n {β : Type} {S S' : Sto} {c : PC} {q : Nat} {K : Nat → Sto → Option β} {r : Option β} (h : nC S c = S') (hq : S.1 = q) (g : K q S' = r) : nw S c K = r := by
  subst h hq
  exact g
theorem in_c {α β : Type} {F : Option (α × Sto)} {x : α} {s : Sto} {K : α → Sto → Option β} {r : Option β} (h : F = some (x, s)) (g : K x s = r) : cb F K = r := by
  subst h
  exact g
theorem in_sR {σ : Sto} {t ci h v j n : Nat} {f : Nat → Option Nat} (h1 : hs_r σ t h = some (n, .inr (.inr (.inr (.inr f))))) (h2 : ∃ fs, hs_o σ ci v = some fs) (hj : j < n) (hn : n < 2 ^ 31) : sR σ t ci h (nI j) v = some (σ.1, va_up σ.2 h (.inl (t, n, .inr (.inr (.inr (.inr (va_up f j (some v)))))))) := by
  obtain ⟨fs, h2⟩ := h2
  unfold sR
  rw [h1, h2]
  dsimp only
  rw [if_neg (hs_cl hj hn), nI_clamp (by omega)]
theorem w_l {n : Nat} {x1 x4 : Int32} {x2 y : Int64} {S : Sto} (h1 : ¬ (79 : Int32) ≤ x4) (h2 : ¬ (16 : Int32) ≤ x1) (h3 : ¬ (x4 < 0 ∨ 79 ≤ x4)) (h32 : ¬ sx_ch x4 = 32) (hy : x2 * 32 + (sx_ch x4).toInt64 - 97 + 1 = y) : fX9_init_b51 (n + 1) 2 x1 x2 x4 S = fX9_init_b51 n 2 x1 y (x4 + 1) S := by
  subst hy
  rw [fX9_init_b51, if_neg h1, if_neg h2, if_neg h3, lt_e, if_neg h32]
  rfl
theorem w_s {n a : Nat} {x1 x4 : Int32} {x2 : Int64} {S S' : Sto} (h1 : ¬ (79 : Int32) ≤ x4) (h2 : ¬ (16 : Int32) ≤ x1) (h3 : ¬ (x4 < 0 ∨ 79 ≤ x4)) (h32 : sx_ch x4 = 32) (hr : gR S 9 2 0 = some a) (hs : sL S 3 a x1 x2 = some S') : fX9_init_b51 (n + 1) 2 x1 x2 x4 S = fX9_init_b51 n 2 (x1 + 1) 0 (x4 + 1) S' := by
  rw [fX9_init_b51, if_neg h1, if_neg h2, if_neg h3, lt_e, if_pos h32, hr, Option.bind_some, hs, Option.bind_some]
  rfl
def wap (x : Int64) (c : Int32) : Int64 := if c = 0 then x else 27 * x + (c - 97 + 1).toInt64
theorem wap_e (x : Int64) (c : Int32) (S : Sto) : fX12_appends x c S = some (wap x c, S) := by
  unfold fX12_appends wap
  by_cases h : c = 0
  · rw [if_pos h, if_pos h]
  · rw [if_neg h, if_neg h]
theorem word_v {a b c d e f g : Int32} {v : Int64} {S : Sto} (h : wap (wap (wap (wap (wap (wap (wap 0 a) b) c) d) e) f) g = v) : fX12_word a b c d e f g S = some (v, S) := by
  subst h
  unfold fX12_word
  rw [wap_e, cb_e, Option.bind_some, wap_e, cb_e, Option.bind_some, wap_e, cb_e, Option.bind_some, wap_e, cb_e, Option.bind_some, wap_e, cb_e, Option.bind_some, wap_e, cb_e, Option.bind_some, wap_e, cb_e, Option.bind_some]
theorem all_s {P : Nat → Prop} {n : Nat} (h : ∀ k, k < n → P k) (g : P n) : ∀ k, k < n + 1 → P k := fun k hk => by
  by_cases e : k = n
  · rw [e]; exact g
  · exact h k (by omega)
def zcs0 : Sto := iC
def zcs1 : Sto := (2, va_up zcs0.2 1 (.inl (1, 2000, .inl (fun _ => 0))))
def zcs2 : Sto := (2, va_up zcs1.2 0 (.inr (11, [.ref 1, .int 0, .null, .null, .null, .null, .null, .null, .null, .null, .null, .null, .null, .null, .null])))
def zcs3 : Sto := (2, va_up zcs2.2 0 (.inr (11, [.ref 1, .int 0, .null, .null, .null, .null, .null, .null, .null, .null, .null, .null, .null, .null, .null])))
def zcs4 : Sto := (3, va_up zcs3.2 2 (.inr (9, [.null, .null, .null, .null, .int 0])))
def zcs5 : Sto := (4, va_up zcs4.2 3 (.inl (3, 16, .inr (.inl (fun _ => 0)))))
def zcs6 : Sto := (4, va_up zcs5.2 2 (.inr (9, [.ref 3, .null, .null, .null, .int 0])))
def zcs7 : Sto := (5, va_up zcs6.2 4 (.inl (2, 402, .inl (fun _ => 0))))
def zcs8 : Sto := (5, va_up zcs7.2 2 (.inr (9, [.ref 3, .ref 4, .null, .null, .int 0])))
def zcs9 : Sto := (6, va_up zcs8.2 5 (.inl (2, 402, .inl (fun _ => 0))))
def zcs10 : Sto := (6, va_up zcs9.2 2 (.inr (9, [.ref 3, .ref 4, .ref 5, .null, .int 0])))
def zcs11 : Sto := (7, va_up zcs10.2 6 (.inl (3, 402, .inr (.inl (fun _ => 0)))))
def zcs12 : Sto := (7, va_up zcs11.2 2 (.inr (9, [.ref 3, .ref 4, .ref 5, .ref 6, .int 0])))
def zcs13 : Sto := (7, va_up zcs12.2 2 (.inr (9, [.ref 3, .ref 4, .ref 5, .ref 6, .int 0])))
def zcf1 : Nat → Int64 := vp_updL (fun _ => 0) 0 81387
def zcs14 : Sto := (7, va_up zcs13.2 3 (.inl (3, 16, .inr (.inl zcf1))))
def zcf2 : Nat → Int64 := vp_updL zcf1 1 8554201
def zcs15 : Sto := (7, va_up zcs14.2 3 (.inl (3, 16, .inr (.inl zcf2))))
def zcf3 : Nat → Int64 := vp_updL zcf2 2 21006725
def zcs16 : Sto := (7, va_up zcs15.2 3 (.inl (3, 16, .inr (.inl zcf3))))
def zcf4 : Nat → Int64 := vp_updL zcf3 3 533893
def zcs17 : Sto := (7, va_up zcs16.2 3 (.inl (3, 16, .inr (.inl zcf4))))
def zcf5 : Nat → Int64 := vp_updL zcf4 4 6553
def zcs18 : Sto := (7, va_up zcs17.2 3 (.inl (3, 16, .inr (.inl zcf5))))
def zcf6 : Nat → Int64 := vp_updL zcf5 5 52
def zcs19 : Sto := (7, va_up zcs18.2 3 (.inl (3, 16, .inr (.inl zcf6))))
def zcf7 : Nat → Int64 := vp_updL zcf6 6 7754916
def zcs20 : Sto := (7, va_up zcs19.2 3 (.inl (3, 16, .inr (.inl zcf7))))
def zcf8 : Nat → Int64 := vp_updL zcf7 7 494
def zcs21 : Sto := (7, va_up zcs20.2 3 (.inl (3, 16, .inr (.inl zcf8))))
def zcf9 : Nat → Int64 := vp_updL zcf8 8 294
def zcs22 : Sto := (7, va_up zcs21.2 3 (.inl (3, 16, .inr (.inl zcf9))))
def zcf10 : Nat → Int64 := vp_updL zcf9 9 663726
def zcs23 : Sto := (7, va_up zcs22.2 3 (.inl (3, 16, .inr (.inl zcf10))))
def zcf11 : Nat → Int64 := vp_updL zcf10 10 176741
def zcs24 : Sto := (7, va_up zcs23.2 3 (.inl (3, 16, .inr (.inl zcf11))))
def zcf12 : Nat → Int64 := vp_updL zcf11 11 409031
def zcs25 : Sto := (7, va_up zcs24.2 3 (.inl (3, 16, .inr (.inl zcf12))))
def zcf13 : Nat → Int64 := vp_updL zcf12 12 671108
def zcs26 : Sto := (7, va_up zcs25.2 3 (.inl (3, 16, .inr (.inl zcf13))))
def zcf14 : Nat → Int64 := vp_updL zcf13 13 12769452
def zcs27 : Sto := (7, va_up zcs26.2 3 (.inl (3, 16, .inr (.inl zcf14))))
def zcf15 : Nat → Int64 := vp_updL zcf14 14 17171557
def zcs28 : Sto := (7, va_up zcs27.2 3 (.inl (3, 16, .inr (.inl zcf15))))
def zcf16 : Nat → Int64 := vp_updL zcf15 15 1130181
def zcs29 : Sto := (7, va_up zcs28.2 3 (.inl (3, 16, .inr (.inl zcf16))))
set_option maxRecDepth 100000 in
theorem zct_X9_init_4 : fX9_init 2 zcs4 = some ((), zcs29) := by
  unfold fX9_init
  refine in_n (S' := zcs5) (q := 3) rfl rfl ?_
  refine in_b (x := zcs6) rfl ?_
  refine in_n (S' := zcs7) (q := 4) rfl rfl ?_
  refine in_b (x := zcs8) rfl ?_
  refine in_n (S' := zcs9) (q := 5) rfl rfl ?_
  refine in_b (x := zcs10) rfl ?_
  refine in_n (S' := zcs11) (q := 6) rfl rfl ?_
  refine in_b (x := zcs12) rfl ?_
  refine in_b (x := zcs13) rfl ?_
  obtain ⟨Q, hQ⟩ : ∃ q, FU = q + 80 := ⟨FU - 80, by unfold FU; omega⟩
  rw [hQ]
  refine (w_l (y := 2) (by decide) (by decide) (by decide) (by decide +kernel) (by decide +kernel)).trans ?_
  rw [show (0 : Int32) + 1 = 1 from rfl]
  refine (w_l (y := 79) (by decide) (by decide) (by decide) (by decide +kernel) (by decide +kernel)).trans ?_
  rw [show (1 : Int32) + 1 = 2 from rfl]
  refine (w_l (y := 2543) (by decide) (by decide) (by decide) (by decide +kernel) (by decide +kernel)).trans ?_
  rw [show (2 : Int32) + 1 = 3 from rfl]
  refine (w_l (y := 81387) (by decide) (by decide) (by decide) (by decide +kernel) (by decide +kernel)).trans ?_
  rw [show (3 : Int32) + 1 = 4 from rfl]
  refine (w_s (x1 := 0) (x4 := 4) (S := zcs13) (S' := zcs14) (a := 3) (by decide) (by decide) (by decide) (by decide +kernel) rfl (hs_sL (j := 0) (n := 16) (f := (fun _ => 0)) rfl (by decide) (by decide) _)).trans ?_
  rw [show (0 : Int32) + 1 = 1 from rfl, show (4 : Int32) + 1 = 5 from rfl]
  refine (w_l (y := 8) (by decide) (by decide) (by decide) (by decide +kernel) (by decide +kernel)).trans ?_
  rw [show (5 : Int32) + 1 = 6 from rfl]
  refine (w_l (y := 261) (by decide) (by decide) (by decide) (by decide +kernel) (by decide +kernel)).trans ?_
  rw [show (6 : Int32) + 1 = 7 from rfl]
  refine (w_l (y := 8353) (by decide) (by decide) (by decide) (by decide +kernel) (by decide +kernel)).trans ?_
  rw [show (7 : Int32) + 1 = 8 from rfl]
  refine (w_l (y := 267318) (by decide) (by decide) (by decide) (by decide +kernel) (by decide +kernel)).trans ?_
  rw [show (8 : Int32) + 1 = 9 from rfl]
  refine (w_l (y := 8554201) (by decide) (by decide) (by decide) (by decide +kernel) (by decide +kernel)).trans ?_
  rw [show (9 : Int32) + 1 = 10 from rfl]
  refine (w_s (x1 := 1) (x4 := 10) (S := zcs14) (S' := zcs15) (a := 3) (by decide) (by decide) (by decide) (by decide +kernel) rfl (hs_sL (j := 1) (n := 16) (f := zcf1) rfl (by decide) (by decide) _)).trans ?_
  rw [show (1 : Int32) + 1 = 2 from rfl, show (10 : Int32) + 1 = 11 from rfl]
  refine (w_l (y := 20) (by decide) (by decide) (by decide) (by decide +kernel) (by decide +kernel)).trans ?_
  rw [show (11 : Int32) + 1 = 12 from rfl]
  refine (w_l (y := 641) (by decide) (by decide) (by decide) (by decide +kernel) (by decide +kernel)).trans ?_
  rw [show (12 : Int32) + 1 = 13 from rfl]
  refine (w_l (y := 20514) (by decide) (by decide) (by decide) (by decide +kernel) (by decide +kernel)).trans ?_
  rw [show (13 : Int32) + 1 = 14 from rfl]
  refine (w_l (y := 656460) (by decide) (by decide) (by decide) (by decide +kernel) (by decide +kernel)).trans ?_
  rw [show (14 : Int32) + 1 = 15 from rfl]
  refine (w_l (y := 21006725) (by decide) (by decide) (by decide) (by decide +kernel) (by decide +kernel)).trans ?_
  rw [show (15 : Int32) + 1 = 16 from rfl]
  refine (w_s (x1 := 2) (x4 := 16) (S := zcs15) (S' := zcs16) (a := 3) (by decide) (by decide) (by decide) (by decide +kernel) rfl (hs_sL (j := 2) (n := 16) (f := zcf2) rfl (by decide) (by decide) _)).trans ?_
  rw [show (2 : Int32) + 1 = 3 from rfl, show (16 : Int32) + 1 = 17 from rfl]
  refine (w_l (y := 16) (by decide) (by decide) (by decide) (by decide +kernel) (by decide +kernel)).trans ?_
  rw [show (17 : Int32) + 1 = 18 from rfl]
  refine (w_l (y := 521) (by decide) (by decide) (by decide) (by decide +kernel) (by decide +kernel)).trans ?_
  rw [show (18 : Int32) + 1 = 19 from rfl]
  refine (w_l (y := 16684) (by decide) (by decide) (by decide) (by decide +kernel) (by decide +kernel)).trans ?_
  rw [show (19 : Int32) + 1 = 20 from rfl]
  refine (w_l (y := 533893) (by decide) (by decide) (by decide) (by decide +kernel) (by decide +kernel)).trans ?_
  rw [show (20 : Int32) + 1 = 21 from rfl]
  refine (w_s (x1 := 3) (x4 := 21) (S := zcs16) (S' := zcs17) (a := 3) (by decide) (by decide) (by decide) (by decide +kernel) rfl (hs_sL (j := 3) (n := 16) (f := zcf3) rfl (by decide) (by decide) _)).trans ?_
  rw [show (3 : Int32) + 1 = 4 from rfl, show (21 : Int32) + 1 = 22 from rfl]
  refine (w_l (y := 6) (by decide) (by decide) (by decide) (by decide +kernel) (by decide +kernel)).trans ?_
  rw [show (22 : Int32) + 1 = 23 from rfl]
  refine (w_l (y := 204) (by decide) (by decide) (by decide) (by decide +kernel) (by decide +kernel)).trans ?_
  rw [show (23 : Int32) + 1 = 24 from rfl]
  refine (w_l (y := 6553) (by decide) (by decide) (by decide) (by decide +kernel) (by decide +kernel)).trans ?_
  rw [show (24 : Int32) + 1 = 25 from rfl]
  refine (w_s (x1 := 4) (x4 := 25) (S := zcs17) (S' := zcs18) (a := 3) (by decide) (by decide) (by decide) (by decide +kernel) rfl (hs_sL (j := 4) (n := 16) (f := zcf4) rfl (by decide) (by decide) _)).trans ?_
  rw [show (4 : Int32) + 1 = 5 from rfl, show (25 : Int32) + 1 = 26 from rfl]
  refine (w_l (y := 1) (by decide) (by decide) (by decide) (by decide +kernel) (by decide +kernel)).trans ?_
  rw [show (26 : Int32) + 1 = 27 from rfl]
  refine (w_l (y := 52) (by decide) (by decide) (by decide) (by decide +kernel) (by decide +kernel)).trans ?_
  rw [show (27 : Int32) + 1 = 28 from rfl]
  refine (w_s (x1 := 5) (x4 := 28) (S := zcs18) (S' := zcs19) (a := 3) (by decide) (by decide) (by decide) (by decide +kernel) rfl (hs_sL (j := 5) (n := 16) (f := zcf5) rfl (by decide) (by decide) _)).trans ?_
  rw [show (5 : Int32) + 1 = 6 from rfl, show (28 : Int32) + 1 = 29 from rfl]
  refine (w_l (y := 7) (by decide) (by decide) (by decide) (by decide +kernel) (by decide +kernel)).trans ?_
  rw [show (29 : Int32) + 1 = 30 from rfl]
  refine (w_l (y := 236) (by decide) (by decide) (by decide) (by decide +kernel) (by decide +kernel)).trans ?_
  rw [show (30 : Int32) + 1 = 31 from rfl]
  refine (w_l (y := 7573) (by decide) (by decide) (by decide) (by decide +kernel) (by decide +kernel)).trans ?_
  rw [show (31 : Int32) + 1 = 32 from rfl]
  refine (w_l (y := 242341) (by decide) (by decide) (by decide) (by decide +kernel) (by decide +kernel)).trans ?_
  rw [show (32 : Int32) + 1 = 33 from rfl]
  refine (w_l (y := 7754916) (by decide) (by decide) (by decide) (by decide +kernel) (by decide +kernel)).trans ?_
  rw [show (33 : Int32) + 1 = 34 from rfl]
  refine (w_s (x1 := 6) (x4 := 34) (S := zcs19) (S' := zcs20) (a := 3) (by decide) (by decide) (by decide) (by decide +kernel) rfl (hs_sL (j := 6) (n := 16) (f := zcf6) rfl (by decide) (by decide) _)).trans ?_
  rw [show (6 : Int32) + 1 = 7 from rfl, show (34 : Int32) + 1 = 35 from rfl]
  refine (w_l (y := 15) (by decide) (by decide) (by decide) (by decide +kernel) (by decide +kernel)).trans ?_
  rw [show (35 : Int32) + 1 = 36 from rfl]
  refine (w_l (y := 494) (by decide) (by decide) (by decide) (by decide +kernel) (by decide +kernel)).trans ?_
  rw [show (36 : Int32) + 1 = 37 from rfl]
  refine (w_s (x1 := 7) (x4 := 37) (S := zcs20) (S' := zcs21) (a := 3) (by decide) (by decide) (by decide) (by decide +kernel) rfl (hs_sL (j := 7) (n := 16) (f := zcf7) rfl (by decide) (by decide) _)).trans ?_
  rw [show (7 : Int32) + 1 = 8 from rfl, show (37 : Int32) + 1 = 38 from rfl]
  refine (w_l (y := 9) (by decide) (by decide) (by decide) (by decide +kernel) (by decide +kernel)).trans ?_
  rw [show (38 : Int32) + 1 = 39 from rfl]
  refine (w_l (y := 294) (by decide) (by decide) (by decide) (by decide +kernel) (by decide +kernel)).trans ?_
  rw [show (39 : Int32) + 1 = 40 from rfl]
  refine (w_s (x1 := 8) (x4 := 40) (S := zcs21) (S' := zcs22) (a := 3) (by decide) (by decide) (by decide) (by decide +kernel) rfl (hs_sL (j := 8) (n := 16) (f := zcf8) rfl (by decide) (by decide) _)).trans ?_
  rw [show (8 : Int32) + 1 = 9 from rfl, show (40 : Int32) + 1 = 41 from rfl]
  refine (w_l (y := 20) (by decide) (by decide) (by decide) (by decide +kernel) (by decide +kernel)).trans ?_
  rw [show (41 : Int32) + 1 = 42 from rfl]
  refine (w_l (y := 648) (by decide) (by decide) (by decide) (by decide +kernel) (by decide +kernel)).trans ?_
  rw [show (42 : Int32) + 1 = 43 from rfl]
  refine (w_l (y := 20741) (by decide) (by decide) (by decide) (by decide +kernel) (by decide +kernel)).trans ?_
  rw [show (43 : Int32) + 1 = 44 from rfl]
  refine (w_l (y := 663726) (by decide) (by decide) (by decide) (by decide +kernel) (by decide +kernel)).trans ?_
  rw [show (44 : Int32) + 1 = 45 from rfl]
  refine (w_s (x1 := 9) (x4 := 45) (S := zcs22) (S' := zcs23) (a := 3) (by decide) (by decide) (by decide) (by decide +kernel) rfl (hs_sL (j := 9) (n := 16) (f := zcf9) rfl (by decide) (by decide) _)).trans ?_
  rw [show (9 : Int32) + 1 = 10 from rfl, show (45 : Int32) + 1 = 46 from rfl]
  refine (w_l (y := 5) (by decide) (by decide) (by decide) (by decide +kernel) (by decide +kernel)).trans ?_
  rw [show (46 : Int32) + 1 = 47 from rfl]
  refine (w_l (y := 172) (by decide) (by decide) (by decide) (by decide +kernel) (by decide +kernel)).trans ?_
  rw [show (47 : Int32) + 1 = 48 from rfl]
  refine (w_l (y := 5523) (by decide) (by decide) (by decide) (by decide +kernel) (by decide +kernel)).trans ?_
  rw [show (48 : Int32) + 1 = 49 from rfl]
  refine (w_l (y := 176741) (by decide) (by decide) (by decide) (by decide +kernel) (by decide +kernel)).trans ?_
  rw [show (49 : Int32) + 1 = 50 from rfl]
  refine (w_s (x1 := 10) (x4 := 50) (S := zcs23) (S' := zcs24) (a := 3) (by decide) (by decide) (by decide) (by decide +kernel) rfl (hs_sL (j := 10) (n := 16) (f := zcf10) rfl (by decide) (by decide) _)).trans ?_
  rw [show (10 : Int32) + 1 = 11 from rfl, show (50 : Int32) + 1 = 51 from rfl]
  refine (w_l (y := 12) (by decide) (by decide) (by decide) (by decide +kernel) (by decide +kernel)).trans ?_
  rw [show (51 : Int32) + 1 = 52 from rfl]
  refine (w_l (y := 399) (by decide) (by decide) (by decide) (by decide +kernel) (by decide +kernel)).trans ?_
  rw [show (52 : Int32) + 1 = 53 from rfl]
  refine (w_l (y := 12782) (by decide) (by decide) (by decide) (by decide +kernel) (by decide +kernel)).trans ?_
  rw [show (53 : Int32) + 1 = 54 from rfl]
  refine (w_l (y := 409031) (by decide) (by decide) (by decide) (by decide +kernel) (by decide +kernel)).trans ?_
  rw [show (54 : Int32) + 1 = 55 from rfl]
  refine (w_s (x1 := 11) (x4 := 55) (S := zcs24) (S' := zcs25) (a := 3) (by decide) (by decide) (by decide) (by decide +kernel) rfl (hs_sL (j := 11) (n := 16) (f := zcf11) rfl (by decide) (by decide) _)).trans ?_
  rw [show (11 : Int32) + 1 = 12 from rfl, show (55 : Int32) + 1 = 56 from rfl]
  refine (w_l (y := 20) (by decide) (by decide) (by decide) (by decide +kernel) (by decide +kernel)).trans ?_
  rw [show (56 : Int32) + 1 = 57 from rfl]
  refine (w_l (y := 655) (by decide) (by decide) (by decide) (by decide +kernel) (by decide +kernel)).trans ?_
  rw [show (57 : Int32) + 1 = 58 from rfl]
  refine (w_l (y := 20972) (by decide) (by decide) (by decide) (by decide +kernel) (by decide +kernel)).trans ?_
  rw [show (58 : Int32) + 1 = 59 from rfl]
  refine (w_l (y := 671108) (by decide) (by decide) (by decide) (by decide +kernel) (by decide +kernel)).trans ?_
  rw [show (59 : Int32) + 1 = 60 from rfl]
  refine (w_s (x1 := 12) (x4 := 60) (S := zcs25) (S' := zcs26) (a := 3) (by decide) (by decide) (by decide) (by decide +kernel) rfl (hs_sL (j := 12) (n := 16) (f := zcf12) rfl (by decide) (by decide) _)).trans ?_
  rw [show (12 : Int32) + 1 = 13 from rfl, show (60 : Int32) + 1 = 61 from rfl]
  refine (w_l (y := 12) (by decide) (by decide) (by decide) (by decide +kernel) (by decide +kernel)).trans ?_
  rw [show (61 : Int32) + 1 = 62 from rfl]
  refine (w_l (y := 389) (by decide) (by decide) (by decide) (by decide +kernel) (by decide +kernel)).trans ?_
  rw [show (62 : Int32) + 1 = 63 from rfl]
  refine (w_l (y := 12470) (by decide) (by decide) (by decide) (by decide +kernel) (by decide +kernel)).trans ?_
  rw [show (63 : Int32) + 1 = 64 from rfl]
  refine (w_l (y := 399045) (by decide) (by decide) (by decide) (by decide +kernel) (by decide +kernel)).trans ?_
  rw [show (64 : Int32) + 1 = 65 from rfl]
  refine (w_l (y := 12769452) (by decide) (by decide) (by decide) (by decide +kernel) (by decide +kernel)).trans ?_
  rw [show (65 : Int32) + 1 = 66 from rfl]
  refine (w_s (x1 := 13) (x4 := 66) (S := zcs26) (S' := zcs27) (a := 3) (by decide) (by decide) (by decide) (by decide +kernel) rfl (hs_sL (j := 13) (n := 16) (f := zcf13) rfl (by decide) (by decide) _)).trans ?_
  rw [show (13 : Int32) + 1 = 14 from rfl, show (66 : Int32) + 1 = 67 from rfl]
  refine (w_l (y := 16) (by decide) (by decide) (by decide) (by decide +kernel) (by decide +kernel)).trans ?_
  rw [show (67 : Int32) + 1 = 68 from rfl]
  refine (w_l (y := 524) (by decide) (by decide) (by decide) (by decide +kernel) (by decide +kernel)).trans ?_
  rw [show (68 : Int32) + 1 = 69 from rfl]
  refine (w_l (y := 16769) (by decide) (by decide) (by decide) (by decide +kernel) (by decide +kernel)).trans ?_
  rw [show (69 : Int32) + 1 = 70 from rfl]
  refine (w_l (y := 536611) (by decide) (by decide) (by decide) (by decide +kernel) (by decide +kernel)).trans ?_
  rw [show (70 : Int32) + 1 = 71 from rfl]
  refine (w_l (y := 17171557) (by decide) (by decide) (by decide) (by decide +kernel) (by decide +kernel)).trans ?_
  rw [show (71 : Int32) + 1 = 72 from rfl]
  refine (w_s (x1 := 14) (x4 := 72) (S := zcs27) (S' := zcs28) (a := 3) (by decide) (by decide) (by decide) (by decide +kernel) rfl (hs_sL (j := 14) (n := 16) (f := zcf14) rfl (by decide) (by decide) _)).trans ?_
  rw [show (14 : Int32) + 1 = 15 from rfl, show (72 : Int32) + 1 = 73 from rfl]
  refine (w_l (y := 1) (by decide) (by decide) (by decide) (by decide +kernel) (by decide +kernel)).trans ?_
  rw [show (73 : Int32) + 1 = 74 from rfl]
  refine (w_l (y := 34) (by decide) (by decide) (by decide) (by decide +kernel) (by decide +kernel)).trans ?_
  rw [show (74 : Int32) + 1 = 75 from rfl]
  refine (w_l (y := 1103) (by decide) (by decide) (by decide) (by decide +kernel) (by decide +kernel)).trans ?_
  rw [show (75 : Int32) + 1 = 76 from rfl]
  refine (w_l (y := 35318) (by decide) (by decide) (by decide) (by decide +kernel) (by decide +kernel)).trans ?_
  rw [show (76 : Int32) + 1 = 77 from rfl]
  refine (w_l (y := 1130181) (by decide) (by decide) (by decide) (by decide +kernel) (by decide +kernel)).trans ?_
  rw [show (77 : Int32) + 1 = 78 from rfl]
  refine (w_s (x1 := 15) (x4 := 78) (S := zcs28) (S' := zcs29) (a := 3) (by decide) (by decide) (by decide) (by decide +kernel) rfl (hs_sL (j := 15) (n := 16) (f := zcf15) rfl (by decide) (by decide) _)).trans ?_
  rw [show (15 : Int32) + 1 = 16 from rfl, show (78 : Int32) + 1 = 79 from rfl]
  rw [fX9_init_b51, if_pos (by decide)]
def zcs30 : Sto := (7, va_up zcs29.2 0 (.inr (11, [.ref 1, .int 0, .ref 2, .null, .null, .null, .null, .null, .null, .null, .null, .null, .null, .null, .null])))
def zcs31 : Sto := (8, va_up zcs30.2 7 (.inr (10, [.int 0, .null, .null, .null, .null, .int 0, .null, .null, .null, .int 0, .int 0, .null, .null, .null, .null])))
def zcs32 : Sto := (8, va_up zcs31.2 7 (.inr (10, [.int 0, .null, .null, .null, .null, .int 0, .null, .null, .null, .int 0, .int 0, .null, .null, .null, .null])))
def zcs33 : Sto := (9, va_up zcs32.2 8 (.inl (3, 6, .inr (.inl (fun _ => 0)))))
def zcs34 : Sto := (9, va_up zcs33.2 7 (.inr (10, [.int 0, .ref 8, .null, .null, .null, .int 0, .null, .null, .null, .int 0, .int 0, .null, .null, .null, .null])))
def zcs35 : Sto := (10, va_up zcs34.2 9 (.inl (2, 6, .inl (fun _ => 0))))
def zcs36 : Sto := (10, va_up zcs35.2 7 (.inr (10, [.int 0, .ref 8, .ref 9, .null, .null, .int 0, .null, .null, .null, .int 0, .int 0, .null, .null, .null, .null])))
def zcs37 : Sto := (11, va_up zcs36.2 10 (.inl (2, 6, .inl (fun _ => 0))))
def zcs38 : Sto := (11, va_up zcs37.2 7 (.inr (10, [.int 0, .ref 8, .ref 9, .ref 10, .null, .int 0, .null, .null, .null, .int 0, .int 0, .null, .null, .null, .null])))
def zcs39 : Sto := (12, va_up zcs38.2 11 (.inl (2, 6, .inl (fun _ => 0))))
def zcs40 : Sto := (12, va_up zcs39.2 7 (.inr (10, [.int 0, .ref 8, .ref 9, .ref 10, .ref 11, .int 0, .null, .null, .null, .int 0, .int 0, .null, .null, .null, .null])))
def zcs41 : Sto := (12, va_up zcs40.2 7 (.inr (10, [.int 0, .ref 8, .ref 9, .ref 10, .ref 11, .int 0, .null, .null, .null, .int 0, .int 0, .null, .null, .null, .null])))
def zcs42 : Sto := (13, va_up zcs41.2 12 (.inl (2, 400, .inl (fun _ => 0))))
def zcs43 : Sto := (13, va_up zcs42.2 7 (.inr (10, [.int 0, .ref 8, .ref 9, .ref 10, .ref 11, .int 0, .ref 12, .null, .null, .int 0, .int 0, .null, .null, .null, .null])))
def zcs44 : Sto := (14, va_up zcs43.2 13 (.inl (2, 400, .inl (fun _ => 0))))
def zcs45 : Sto := (14, va_up zcs44.2 7 (.inr (10, [.int 0, .ref 8, .ref 9, .ref 10, .ref 11, .int 0, .ref 12, .ref 13, .null, .int 0, .int 0, .null, .null, .null, .null])))
def zcs46 : Sto := (15, va_up zcs45.2 14 (.inl (2, 40, .inl (fun _ => 0))))
def zcs47 : Sto := (15, va_up zcs46.2 7 (.inr (10, [.int 0, .ref 8, .ref 9, .ref 10, .ref 11, .int 0, .ref 12, .ref 13, .ref 14, .int 0, .int 0, .null, .null, .null, .null])))
def zcs48 : Sto := (15, va_up zcs47.2 7 (.inr (10, [.int 0, .ref 8, .ref 9, .ref 10, .ref 11, .int 0, .ref 12, .ref 13, .ref 14, .int 100, .int 0, .null, .null, .null, .null])))
def zcs49 : Sto := (15, va_up zcs48.2 7 (.inr (10, [.int 0, .ref 8, .ref 9, .ref 10, .ref 11, .int 0, .ref 12, .ref 13, .ref 14, .int 100, .int 0, .null, .null, .null, .null])))
def zcs50 : Sto := (16, va_up zcs49.2 15 (.inl (2, 6, .inl (fun _ => 0))))
def zcs51 : Sto := (16, va_up zcs50.2 7 (.inr (10, [.int 0, .ref 8, .ref 9, .ref 10, .ref 11, .int 0, .ref 12, .ref 13, .ref 14, .int 100, .int 0, .ref 15, .null, .null, .null])))
def zcs52 : Sto := (17, va_up zcs51.2 16 (.inl (2, 6, .inl (fun _ => 0))))
def zcs53 : Sto := (17, va_up zcs52.2 7 (.inr (10, [.int 0, .ref 8, .ref 9, .ref 10, .ref 11, .int 0, .ref 12, .ref 13, .ref 14, .int 100, .int 0, .ref 15, .ref 16, .null, .null])))
def zcs54 : Sto := (18, va_up zcs53.2 17 (.inl (2, 6, .inl (fun _ => 0))))
def zcs55 : Sto := (18, va_up zcs54.2 7 (.inr (10, [.int 0, .ref 8, .ref 9, .ref 10, .ref 11, .int 0, .ref 12, .ref 13, .ref 14, .int 100, .int 0, .ref 15, .ref 16, .ref 17, .null])))
def zcs56 : Sto := (19, va_up zcs55.2 18 (.inr (5, [.int 0, .null, .null, .null])))
def zcs57 : Sto := (19, va_up zcs56.2 18 (.inr (5, [.int 0, .null, .null, .null])))
def zcs58 : Sto := (20, va_up zcs57.2 19 (.inl (2, 6, .inl (fun _ => 0))))
def zcs59 : Sto := (20, va_up zcs58.2 18 (.inr (5, [.int 0, .ref 19, .null, .null])))
def zcs60 : Sto := (21, va_up zcs59.2 20 (.inl (2, 6, .inl (fun _ => 0))))
def zcs61 : Sto := (21, va_up zcs60.2 18 (.inr (5, [.int 0, .ref 19, .ref 20, .null])))
def zcs62 : Sto := (22, va_up zcs61.2 21 (.inl (4, 6, .inl (fun _ => 0))))
def zcs63 : Sto := (22, va_up zcs62.2 18 (.inr (5, [.int 0, .ref 19, .ref 20, .ref 21])))
set_option maxRecDepth 100000 in
theorem zct_X5_init_56 : fX5_init 18 zcs56 = some ((), zcs63) := by
  unfold fX5_init
  refine in_b (x := zcs57) rfl ?_
  refine in_n (S' := zcs58) (q := 19) rfl rfl ?_
  refine in_b (x := zcs59) rfl ?_
  refine in_n (S' := zcs60) (q := 20) rfl rfl ?_
  refine in_b (x := zcs61) rfl ?_
  refine in_n (S' := zcs62) (q := 21) rfl rfl ?_
  refine in_b (x := zcs63) rfl ?_
  rfl
def zcs64 : Sto := (22, va_up zcs63.2 7 (.inr (10, [.int 0, .ref 8, .ref 9, .ref 10, .ref 11, .int 0, .ref 12, .ref 13, .ref 14, .int 100, .int 0, .ref 15, .ref 16, .ref 17, .ref 18])))
set_option maxRecDepth 100000 in
theorem zct_X10_init_31 : fX10_init 7 zcs31 = some ((), zcs64) := by
  unfold fX10_init
  refine in_b (x := zcs32) rfl ?_
  refine in_n (S' := zcs33) (q := 8) rfl rfl ?_
  refine in_b (x := zcs34) rfl ?_
  refine in_n (S' := zcs35) (q := 9) rfl rfl ?_
  refine in_b (x := zcs36) rfl ?_
  refine in_n (S' := zcs37) (q := 10) rfl rfl ?_
  refine in_b (x := zcs38) rfl ?_
  refine in_n (S' := zcs39) (q := 11) rfl rfl ?_
  refine in_b (x := zcs40) rfl ?_
  refine in_b (x := zcs41) rfl ?_
  refine in_n (S' := zcs42) (q := 12) rfl rfl ?_
  refine in_b (x := zcs43) rfl ?_
  refine in_n (S' := zcs44) (q := 13) rfl rfl ?_
  refine in_b (x := zcs45) rfl ?_
  refine in_n (S' := zcs46) (q := 14) rfl rfl ?_
  refine in_b (x := zcs47) rfl ?_
  refine in_b (x := zcs48) rfl ?_
  refine in_b (x := zcs49) rfl ?_
  refine in_n (S' := zcs50) (q := 15) rfl rfl ?_
  refine in_b (x := zcs51) rfl ?_
  refine in_n (S' := zcs52) (q := 16) rfl rfl ?_
  refine in_b (x := zcs53) rfl ?_
  refine in_n (S' := zcs54) (q := 17) rfl rfl ?_
  refine in_b (x := zcs55) rfl ?_
  refine in_n (S' := zcs56) (q := 18) rfl rfl ?_
  refine in_c (x := ()) (s := zcs63) zct_X5_init_56 ?_
  refine in_b (x := zcs64) rfl ?_
  rfl
def zcs65 : Sto := (22, va_up zcs64.2 0 (.inr (11, [.ref 1, .int 0, .ref 2, .ref 7, .null, .null, .null, .null, .null, .null, .null, .null, .null, .null, .null])))
def zcs66 : Sto := (23, va_up zcs65.2 22 (.inr (10, [.int 0, .null, .null, .null, .null, .int 0, .null, .null, .null, .int 0, .int 0, .null, .null, .null, .null])))
def zcs67 : Sto := (23, va_up zcs66.2 22 (.inr (10, [.int 0, .null, .null, .null, .null, .int 0, .null, .null, .null, .int 0, .int 0, .null, .null, .null, .null])))
def zcs68 : Sto := (24, va_up zcs67.2 23 (.inl (3, 6, .inr (.inl (fun _ => 0)))))
def zcs69 : Sto := (24, va_up zcs68.2 22 (.inr (10, [.int 0, .ref 23, .null, .null, .null, .int 0, .null, .null, .null, .int 0, .int 0, .null, .null, .null, .null])))
def zcs70 : Sto := (25, va_up zcs69.2 24 (.inl (2, 6, .inl (fun _ => 0))))
def zcs71 : Sto := (25, va_up zcs70.2 22 (.inr (10, [.int 0, .ref 23, .ref 24, .null, .null, .int 0, .null, .null, .null, .int 0, .int 0, .null, .null, .null, .null])))
def zcs72 : Sto := (26, va_up zcs71.2 25 (.inl (2, 6, .inl (fun _ => 0))))
def zcs73 : Sto := (26, va_up zcs72.2 22 (.inr (10, [.int 0, .ref 23, .ref 24, .ref 25, .null, .int 0, .null, .null, .null, .int 0, .int 0, .null, .null, .null, .null])))
def zcs74 : Sto := (27, va_up zcs73.2 26 (.inl (2, 6, .inl (fun _ => 0))))
def zcs75 : Sto := (27, va_up zcs74.2 22 (.inr (10, [.int 0, .ref 23, .ref 24, .ref 25, .ref 26, .int 0, .null, .null, .null, .int 0, .int 0, .null, .null, .null, .null])))
def zcs76 : Sto := (27, va_up zcs75.2 22 (.inr (10, [.int 0, .ref 23, .ref 24, .ref 25, .ref 26, .int 0, .null, .null, .null, .int 0, .int 0, .null, .null, .null, .null])))
def zcs77 : Sto := (28, va_up zcs76.2 27 (.inl (2, 400, .inl (fun _ => 0))))
def zcs78 : Sto := (28, va_up zcs77.2 22 (.inr (10, [.int 0, .ref 23, .ref 24, .ref 25, .ref 26, .int 0, .ref 27, .null, .null, .int 0, .int 0, .null, .null, .null, .null])))
def zcs79 : Sto := (29, va_up zcs78.2 28 (.inl (2, 400, .inl (fun _ => 0))))
def zcs80 : Sto := (29, va_up zcs79.2 22 (.inr (10, [.int 0, .ref 23, .ref 24, .ref 25, .ref 26, .int 0, .ref 27, .ref 28, .null, .int 0, .int 0, .null, .null, .null, .null])))
def zcs81 : Sto := (30, va_up zcs80.2 29 (.inl (2, 40, .inl (fun _ => 0))))
def zcs82 : Sto := (30, va_up zcs81.2 22 (.inr (10, [.int 0, .ref 23, .ref 24, .ref 25, .ref 26, .int 0, .ref 27, .ref 28, .ref 29, .int 0, .int 0, .null, .null, .null, .null])))
def zcs83 : Sto := (30, va_up zcs82.2 22 (.inr (10, [.int 0, .ref 23, .ref 24, .ref 25, .ref 26, .int 0, .ref 27, .ref 28, .ref 29, .int 100, .int 0, .null, .null, .null, .null])))
def zcs84 : Sto := (30, va_up zcs83.2 22 (.inr (10, [.int 0, .ref 23, .ref 24, .ref 25, .ref 26, .int 0, .ref 27, .ref 28, .ref 29, .int 100, .int 0, .null, .null, .null, .null])))
def zcs85 : Sto := (31, va_up zcs84.2 30 (.inl (2, 6, .inl (fun _ => 0))))
def zcs86 : Sto := (31, va_up zcs85.2 22 (.inr (10, [.int 0, .ref 23, .ref 24, .ref 25, .ref 26, .int 0, .ref 27, .ref 28, .ref 29, .int 100, .int 0, .ref 30, .null, .null, .null])))
def zcs87 : Sto := (32, va_up zcs86.2 31 (.inl (2, 6, .inl (fun _ => 0))))
def zcs88 : Sto := (32, va_up zcs87.2 22 (.inr (10, [.int 0, .ref 23, .ref 24, .ref 25, .ref 26, .int 0, .ref 27, .ref 28, .ref 29, .int 100, .int 0, .ref 30, .ref 31, .null, .null])))
def zcs89 : Sto := (33, va_up zcs88.2 32 (.inl (2, 6, .inl (fun _ => 0))))
def zcs90 : Sto := (33, va_up zcs89.2 22 (.inr (10, [.int 0, .ref 23, .ref 24, .ref 25, .ref 26, .int 0, .ref 27, .ref 28, .ref 29, .int 100, .int 0, .ref 30, .ref 31, .ref 32, .null])))
def zcs91 : Sto := (34, va_up zcs90.2 33 (.inr (5, [.int 0, .null, .null, .null])))
def zcs92 : Sto := (34, va_up zcs91.2 33 (.inr (5, [.int 0, .null, .null, .null])))
def zcs93 : Sto := (35, va_up zcs92.2 34 (.inl (2, 6, .inl (fun _ => 0))))
def zcs94 : Sto := (35, va_up zcs93.2 33 (.inr (5, [.int 0, .ref 34, .null, .null])))
def zcs95 : Sto := (36, va_up zcs94.2 35 (.inl (2, 6, .inl (fun _ => 0))))
def zcs96 : Sto := (36, va_up zcs95.2 33 (.inr (5, [.int 0, .ref 34, .ref 35, .null])))
def zcs97 : Sto := (37, va_up zcs96.2 36 (.inl (4, 6, .inl (fun _ => 0))))
def zcs98 : Sto := (37, va_up zcs97.2 33 (.inr (5, [.int 0, .ref 34, .ref 35, .ref 36])))
set_option maxRecDepth 100000 in
theorem zct_X5_init_91 : fX5_init 33 zcs91 = some ((), zcs98) := by
  unfold fX5_init
  refine in_b (x := zcs92) rfl ?_
  refine in_n (S' := zcs93) (q := 34) rfl rfl ?_
  refine in_b (x := zcs94) rfl ?_
  refine in_n (S' := zcs95) (q := 35) rfl rfl ?_
  refine in_b (x := zcs96) rfl ?_
  refine in_n (S' := zcs97) (q := 36) rfl rfl ?_
  refine in_b (x := zcs98) rfl ?_
  rfl
def zcs99 : Sto := (37, va_up zcs98.2 22 (.inr (10, [.int 0, .ref 23, .ref 24, .ref 25, .ref 26, .int 0, .ref 27, .ref 28, .ref 29, .int 100, .int 0, .ref 30, .ref 31, .ref 32, .ref 33])))
set_option maxRecDepth 100000 in
theorem zct_X10_init_66 : fX10_init 22 zcs66 = some ((), zcs99) := by
  unfold fX10_init
  refine in_b (x := zcs67) rfl ?_
  refine in_n (S' := zcs68) (q := 23) rfl rfl ?_
  refine in_b (x := zcs69) rfl ?_
  refine in_n (S' := zcs70) (q := 24) rfl rfl ?_
  refine in_b (x := zcs71) rfl ?_
  refine in_n (S' := zcs72) (q := 25) rfl rfl ?_
  refine in_b (x := zcs73) rfl ?_
  refine in_n (S' := zcs74) (q := 26) rfl rfl ?_
  refine in_b (x := zcs75) rfl ?_
  refine in_b (x := zcs76) rfl ?_
  refine in_n (S' := zcs77) (q := 27) rfl rfl ?_
  refine in_b (x := zcs78) rfl ?_
  refine in_n (S' := zcs79) (q := 28) rfl rfl ?_
  refine in_b (x := zcs80) rfl ?_
  refine in_n (S' := zcs81) (q := 29) rfl rfl ?_
  refine in_b (x := zcs82) rfl ?_
  refine in_b (x := zcs83) rfl ?_
  refine in_b (x := zcs84) rfl ?_
  refine in_n (S' := zcs85) (q := 30) rfl rfl ?_
  refine in_b (x := zcs86) rfl ?_
  refine in_n (S' := zcs87) (q := 31) rfl rfl ?_
  refine in_b (x := zcs88) rfl ?_
  refine in_n (S' := zcs89) (q := 32) rfl rfl ?_
  refine in_b (x := zcs90) rfl ?_
  refine in_n (S' := zcs91) (q := 33) rfl rfl ?_
  refine in_c (x := ()) (s := zcs98) zct_X5_init_91 ?_
  refine in_b (x := zcs99) rfl ?_
  rfl
def zcs100 : Sto := (37, va_up zcs99.2 0 (.inr (11, [.ref 1, .int 0, .ref 2, .ref 7, .ref 22, .null, .null, .null, .null, .null, .null, .null, .null, .null, .null])))
def zcs101 : Sto := (38, va_up zcs100.2 37 (.inr (3, [.null, .null, .int 0, .int 0, .int 0, .int 0, .int 0, .int 0, .int 0])))
def zcs102 : Sto := (38, va_up zcs101.2 37 (.inr (3, [.null, .null, .int 0, .int 0, .int 0, .int 0, .int 0, .int 0, .int 0])))
def zcs103 : Sto := (38, va_up zcs102.2 37 (.inr (3, [.null, .null, .int 0, .int 0, .int 0, .int 0, .int 0, .int 0, .int 0])))
def zcs104 : Sto := (38, va_up zcs103.2 37 (.inr (3, [.null, .null, .int 0, .int 0, .int (-1), .int 0, .int 0, .int 0, .int 0])))
def zcs105 : Sto := (38, va_up zcs104.2 37 (.inr (3, [.null, .null, .int 0, .int 0, .int (-1), .int 0, .int 0, .int 0, .int 0])))
def zcs106 : Sto := (38, va_up zcs105.2 37 (.inr (3, [.null, .null, .int 0, .int 0, .int (-1), .int 0, .int (-1), .int 0, .int 0])))
def zcs107 : Sto := (38, va_up zcs106.2 37 (.inr (3, [.null, .null, .int 0, .int 0, .int (-1), .int 0, .int (-1), .int 0, .int 0])))
def zcs108 : Sto := (38, va_up zcs107.2 37 (.inr (3, [.null, .null, .int 0, .int 0, .int (-1), .int 0, .int (-1), .int 0, .int 0])))
def zcs109 : Sto := (38, va_up zcs108.2 37 (.inr (3, [.ref 2, .null, .int 0, .int 0, .int (-1), .int 0, .int (-1), .int 0, .int 0])))
def zcs110 : Sto := (38, va_up zcs109.2 37 (.inr (3, [.ref 2, .ref 22, .int 0, .int 0, .int (-1), .int 0, .int (-1), .int 0, .int 0])))
set_option maxRecDepth 100000 in
theorem zct_X3_init_101 : fX3_init 37 2 22 zcs101 = some ((), zcs110) := by
  unfold fX3_init
  refine in_b (x := zcs102) rfl ?_
  refine in_b (x := zcs103) rfl ?_
  refine in_b (x := zcs104) rfl ?_
  refine in_b (x := zcs105) rfl ?_
  refine in_b (x := zcs106) rfl ?_
  refine in_b (x := zcs107) rfl ?_
  refine in_b (x := zcs108) rfl ?_
  refine in_b (x := zcs109) rfl ?_
  refine in_b (x := zcs110) rfl ?_
  rfl
def zcs111 : Sto := (38, va_up zcs110.2 0 (.inr (11, [.ref 1, .int 0, .ref 2, .ref 7, .ref 22, .ref 37, .null, .null, .null, .null, .null, .null, .null, .null, .null])))
def zcs112 : Sto := (39, va_up zcs111.2 38 (.inr (5, [.int 0, .null, .null, .null])))
def zcs113 : Sto := (39, va_up zcs112.2 38 (.inr (5, [.int 0, .null, .null, .null])))
def zcs114 : Sto := (40, va_up zcs113.2 39 (.inl (2, 6, .inl (fun _ => 0))))
def zcs115 : Sto := (40, va_up zcs114.2 38 (.inr (5, [.int 0, .ref 39, .null, .null])))
def zcs116 : Sto := (41, va_up zcs115.2 40 (.inl (2, 6, .inl (fun _ => 0))))
def zcs117 : Sto := (41, va_up zcs116.2 38 (.inr (5, [.int 0, .ref 39, .ref 40, .null])))
def zcs118 : Sto := (42, va_up zcs117.2 41 (.inl (4, 6, .inl (fun _ => 0))))
def zcs119 : Sto := (42, va_up zcs118.2 38 (.inr (5, [.int 0, .ref 39, .ref 40, .ref 41])))
set_option maxRecDepth 100000 in
theorem zct_X5_init_112 : fX5_init 38 zcs112 = some ((), zcs119) := by
  unfold fX5_init
  refine in_b (x := zcs113) rfl ?_
  refine in_n (S' := zcs114) (q := 39) rfl rfl ?_
  refine in_b (x := zcs115) rfl ?_
  refine in_n (S' := zcs116) (q := 40) rfl rfl ?_
  refine in_b (x := zcs117) rfl ?_
  refine in_n (S' := zcs118) (q := 41) rfl rfl ?_
  refine in_b (x := zcs119) rfl ?_
  rfl
def zcs120 : Sto := (42, va_up zcs119.2 0 (.inr (11, [.ref 1, .int 0, .ref 2, .ref 7, .ref 22, .ref 37, .ref 38, .null, .null, .null, .null, .null, .null, .null, .null])))
def zcs121 : Sto := (43, va_up zcs120.2 42 (.inr (5, [.int 0, .null, .null, .null])))
def zcs122 : Sto := (43, va_up zcs121.2 42 (.inr (5, [.int 0, .null, .null, .null])))
def zcs123 : Sto := (44, va_up zcs122.2 43 (.inl (2, 6, .inl (fun _ => 0))))
def zcs124 : Sto := (44, va_up zcs123.2 42 (.inr (5, [.int 0, .ref 43, .null, .null])))
def zcs125 : Sto := (45, va_up zcs124.2 44 (.inl (2, 6, .inl (fun _ => 0))))
def zcs126 : Sto := (45, va_up zcs125.2 42 (.inr (5, [.int 0, .ref 43, .ref 44, .null])))
def zcs127 : Sto := (46, va_up zcs126.2 45 (.inl (4, 6, .inl (fun _ => 0))))
def zcs128 : Sto := (46, va_up zcs127.2 42 (.inr (5, [.int 0, .ref 43, .ref 44, .ref 45])))
set_option maxRecDepth 100000 in
theorem zct_X5_init_121 : fX5_init 42 zcs121 = some ((), zcs128) := by
  unfold fX5_init
  refine in_b (x := zcs122) rfl ?_
  refine in_n (S' := zcs123) (q := 43) rfl rfl ?_
  refine in_b (x := zcs124) rfl ?_
  refine in_n (S' := zcs125) (q := 44) rfl rfl ?_
  refine in_b (x := zcs126) rfl ?_
  refine in_n (S' := zcs127) (q := 45) rfl rfl ?_
  refine in_b (x := zcs128) rfl ?_
  rfl
def zcs129 : Sto := (46, va_up zcs128.2 0 (.inr (11, [.ref 1, .int 0, .ref 2, .ref 7, .ref 22, .ref 37, .ref 38, .ref 42, .null, .null, .null, .null, .null, .null, .null])))
def zcs130 : Sto := (47, va_up zcs129.2 46 (.inr (0, [.null, .null, .null, .null, .int 0, .int 0])))
def zcs131 : Sto := (48, va_up zcs130.2 47 (.inl (2, 6, .inl (fun _ => 0))))
def zcs132 : Sto := (48, va_up zcs131.2 46 (.inr (0, [.null, .null, .ref 47, .null, .int 0, .int 0])))
def zcs133 : Sto := (49, va_up zcs132.2 48 (.inl (2, 6, .inl (fun _ => 0))))
def zcs134 : Sto := (49, va_up zcs133.2 46 (.inr (0, [.null, .null, .ref 47, .ref 48, .int 0, .int 0])))
def zcs135 : Sto := (49, va_up zcs134.2 46 (.inr (0, [.null, .null, .ref 47, .ref 48, .int 0, .int 0])))
def zcs136 : Sto := (49, va_up zcs135.2 46 (.inr (0, [.null, .null, .ref 47, .ref 48, .int 0, .int 0])))
def zcs137 : Sto := (49, va_up zcs136.2 46 (.inr (0, [.ref 7, .null, .ref 47, .ref 48, .int 0, .int 0])))
def zcs138 : Sto := (49, va_up zcs137.2 46 (.inr (0, [.ref 7, .ref 38, .ref 47, .ref 48, .int 0, .int 0])))
set_option maxRecDepth 100000 in
theorem zct_X0_init_130 : fX0_init 46 7 38 zcs130 = some ((), zcs138) := by
  unfold fX0_init
  refine in_n (S' := zcs131) (q := 47) rfl rfl ?_
  refine in_b (x := zcs132) rfl ?_
  refine in_n (S' := zcs133) (q := 48) rfl rfl ?_
  refine in_b (x := zcs134) rfl ?_
  refine in_b (x := zcs135) rfl ?_
  refine in_b (x := zcs136) rfl ?_
  refine in_b (x := zcs137) rfl ?_
  refine in_b (x := zcs138) rfl ?_
  rfl
def zcs139 : Sto := (49, va_up zcs138.2 0 (.inr (11, [.ref 1, .int 0, .ref 2, .ref 7, .ref 22, .ref 37, .ref 38, .ref 42, .ref 46, .null, .null, .null, .null, .null, .null])))
def zcs140 : Sto := (50, va_up zcs139.2 49 (.inr (4, [.int 0, .int 0, .null, .null, .null, .null])))
def zcs141 : Sto := (50, va_up zcs140.2 49 (.inr (4, [.int 0, .int 0, .null, .null, .null, .null])))
def zcs142 : Sto := (50, va_up zcs141.2 49 (.inr (4, [.int 0, .int 0, .null, .null, .null, .null])))
def zcs143 : Sto := (51, va_up zcs142.2 50 (.inl (2, 50, .inl (fun _ => 0))))
def zcs144 : Sto := (51, va_up zcs143.2 49 (.inr (4, [.int 0, .int 0, .ref 50, .null, .null, .null])))
def zcs145 : Sto := (52, va_up zcs144.2 51 (.inl (2, 50, .inl (fun _ => 0))))
def zcs146 : Sto := (52, va_up zcs145.2 49 (.inr (4, [.int 0, .int 0, .ref 50, .ref 51, .null, .null])))
def zcs147 : Sto := (53, va_up zcs146.2 52 (.inl (2, 50, .inl (fun _ => 0))))
def zcs148 : Sto := (53, va_up zcs147.2 49 (.inr (4, [.int 0, .int 0, .ref 50, .ref 51, .ref 52, .null])))
def zcs149 : Sto := (54, va_up zcs148.2 53 (.inl (4, 50, .inl (fun _ => 0))))
def zcs150 : Sto := (54, va_up zcs149.2 49 (.inr (4, [.int 0, .int 0, .ref 50, .ref 51, .ref 52, .ref 53])))
set_option maxRecDepth 100000 in
theorem zct_X4_init_140 : fX4_init 49 zcs140 = some ((), zcs150) := by
  unfold fX4_init
  refine in_b (x := zcs141) rfl ?_
  refine in_b (x := zcs142) rfl ?_
  refine in_n (S' := zcs143) (q := 50) rfl rfl ?_
  refine in_b (x := zcs144) rfl ?_
  refine in_n (S' := zcs145) (q := 51) rfl rfl ?_
  refine in_b (x := zcs146) rfl ?_
  refine in_n (S' := zcs147) (q := 52) rfl rfl ?_
  refine in_b (x := zcs148) rfl ?_
  refine in_n (S' := zcs149) (q := 53) rfl rfl ?_
  refine in_b (x := zcs150) rfl ?_
  rfl
def zcs151 : Sto := (54, va_up zcs150.2 0 (.inr (11, [.ref 1, .int 0, .ref 2, .ref 7, .ref 22, .ref 37, .ref 38, .ref 42, .ref 46, .ref 49, .null, .null, .null, .null, .null])))
def zcs152 : Sto := (55, va_up zcs151.2 54 (.inr (8, [.null, .null])))
def zcs153 : Sto := (56, va_up zcs152.2 55 (.inl (5, 3, .inr (.inr (.inr (.inr (fun _ => none)))))))
def zcs154 : Sto := (56, va_up zcs153.2 54 (.inr (8, [.ref 55, .null])))
def zcs155 : Sto := (57, va_up zcs154.2 56 (.inl (4, 3, .inl (fun _ => 0))))
def zcs156 : Sto := (57, va_up zcs155.2 54 (.inr (8, [.ref 55, .ref 56])))
def zcs157 : Sto := (58, va_up zcs156.2 57 (.inr (5, [.int 0, .null, .null, .null])))
def zcs158 : Sto := (58, va_up zcs157.2 57 (.inr (5, [.int 0, .null, .null, .null])))
def zcs159 : Sto := (59, va_up zcs158.2 58 (.inl (2, 6, .inl (fun _ => 0))))
def zcs160 : Sto := (59, va_up zcs159.2 57 (.inr (5, [.int 0, .ref 58, .null, .null])))
def zcs161 : Sto := (60, va_up zcs160.2 59 (.inl (2, 6, .inl (fun _ => 0))))
def zcs162 : Sto := (60, va_up zcs161.2 57 (.inr (5, [.int 0, .ref 58, .ref 59, .null])))
def zcs163 : Sto := (61, va_up zcs162.2 60 (.inl (4, 6, .inl (fun _ => 0))))
def zcs164 : Sto := (61, va_up zcs163.2 57 (.inr (5, [.int 0, .ref 58, .ref 59, .ref 60])))
set_option maxRecDepth 100000 in
theorem zct_X5_init_157 : fX5_init 57 zcs157 = some ((), zcs164) := by
  unfold fX5_init
  refine in_b (x := zcs158) rfl ?_
  refine in_n (S' := zcs159) (q := 58) rfl rfl ?_
  refine in_b (x := zcs160) rfl ?_
  refine in_n (S' := zcs161) (q := 59) rfl rfl ?_
  refine in_b (x := zcs162) rfl ?_
  refine in_n (S' := zcs163) (q := 60) rfl rfl ?_
  refine in_b (x := zcs164) rfl ?_
  rfl
def zcf17 : Nat → Option Nat := va_up (fun _ => none) 0 (some 57)
def zcs165 : Sto := (61, va_up zcs164.2 55 (.inl (5, 3, .inr (.inr (.inr (.inr zcf17))))))
def zcs166 : Sto := (62, va_up zcs165.2 61 (.inr (5, [.int 0, .null, .null, .null])))
def zcs167 : Sto := (62, va_up zcs166.2 61 (.inr (5, [.int 0, .null, .null, .null])))
def zcs168 : Sto := (63, va_up zcs167.2 62 (.inl (2, 6, .inl (fun _ => 0))))
def zcs169 : Sto := (63, va_up zcs168.2 61 (.inr (5, [.int 0, .ref 62, .null, .null])))
def zcs170 : Sto := (64, va_up zcs169.2 63 (.inl (2, 6, .inl (fun _ => 0))))
def zcs171 : Sto := (64, va_up zcs170.2 61 (.inr (5, [.int 0, .ref 62, .ref 63, .null])))
def zcs172 : Sto := (65, va_up zcs171.2 64 (.inl (4, 6, .inl (fun _ => 0))))
def zcs173 : Sto := (65, va_up zcs172.2 61 (.inr (5, [.int 0, .ref 62, .ref 63, .ref 64])))
set_option maxRecDepth 100000 in
theorem zct_X5_init_166 : fX5_init 61 zcs166 = some ((), zcs173) := by
  unfold fX5_init
  refine in_b (x := zcs167) rfl ?_
  refine in_n (S' := zcs168) (q := 62) rfl rfl ?_
  refine in_b (x := zcs169) rfl ?_
  refine in_n (S' := zcs170) (q := 63) rfl rfl ?_
  refine in_b (x := zcs171) rfl ?_
  refine in_n (S' := zcs172) (q := 64) rfl rfl ?_
  refine in_b (x := zcs173) rfl ?_
  rfl
def zcf18 : Nat → Option Nat := va_up zcf17 1 (some 61)
def zcs174 : Sto := (65, va_up zcs173.2 55 (.inl (5, 3, .inr (.inr (.inr (.inr zcf18))))))
def zcs175 : Sto := (66, va_up zcs174.2 65 (.inr (5, [.int 0, .null, .null, .null])))
def zcs176 : Sto := (66, va_up zcs175.2 65 (.inr (5, [.int 0, .null, .null, .null])))
def zcs177 : Sto := (67, va_up zcs176.2 66 (.inl (2, 6, .inl (fun _ => 0))))
def zcs178 : Sto := (67, va_up zcs177.2 65 (.inr (5, [.int 0, .ref 66, .null, .null])))
def zcs179 : Sto := (68, va_up zcs178.2 67 (.inl (2, 6, .inl (fun _ => 0))))
def zcs180 : Sto := (68, va_up zcs179.2 65 (.inr (5, [.int 0, .ref 66, .ref 67, .null])))
def zcs181 : Sto := (69, va_up zcs180.2 68 (.inl (4, 6, .inl (fun _ => 0))))
def zcs182 : Sto := (69, va_up zcs181.2 65 (.inr (5, [.int 0, .ref 66, .ref 67, .ref 68])))
set_option maxRecDepth 100000 in
theorem zct_X5_init_175 : fX5_init 65 zcs175 = some ((), zcs182) := by
  unfold fX5_init
  refine in_b (x := zcs176) rfl ?_
  refine in_n (S' := zcs177) (q := 66) rfl rfl ?_
  refine in_b (x := zcs178) rfl ?_
  refine in_n (S' := zcs179) (q := 67) rfl rfl ?_
  refine in_b (x := zcs180) rfl ?_
  refine in_n (S' := zcs181) (q := 68) rfl rfl ?_
  refine in_b (x := zcs182) rfl ?_
  rfl
def zcf19 : Nat → Option Nat := va_up zcf18 2 (some 65)
def zcs183 : Sto := (69, va_up zcs182.2 55 (.inl (5, 3, .inr (.inr (.inr (.inr zcf19))))))
set_option maxRecDepth 100000 in
theorem zct_X8_init_152 : fX8_init 54 zcs152 = some ((), zcs183) := by
  unfold fX8_init
  refine in_n (S' := zcs153) (q := 55) rfl rfl ?_
  refine in_b (x := zcs154) rfl ?_
  refine in_n (S' := zcs155) (q := 56) rfl rfl ?_
  refine in_b (x := zcs156) rfl ?_
  refine in_b (x := 55) rfl ?_
  refine in_n (S' := zcs157) (q := 57) rfl rfl ?_
  refine in_c (x := ()) (s := zcs164) zct_X5_init_157 ?_
  refine in_b (x := zcs165) (in_sR (j := 0) (n := 3) (f := (fun _ => none)) rfl ⟨_, rfl⟩ (by decide) (by decide)) ?_
  refine in_b (x := 55) rfl ?_
  refine in_n (S' := zcs166) (q := 61) rfl rfl ?_
  refine in_c (x := ()) (s := zcs173) zct_X5_init_166 ?_
  refine in_b (x := zcs174) (in_sR (j := 1) (n := 3) (f := zcf17) rfl ⟨_, rfl⟩ (by decide) (by decide)) ?_
  refine in_b (x := 55) rfl ?_
  refine in_n (S' := zcs175) (q := 65) rfl rfl ?_
  refine in_c (x := ()) (s := zcs182) zct_X5_init_175 ?_
  refine in_b (x := zcs183) (in_sR (j := 2) (n := 3) (f := zcf18) rfl ⟨_, rfl⟩ (by decide) (by decide)) ?_
  rfl
def zcs184 : Sto := (69, va_up zcs183.2 0 (.inr (11, [.ref 1, .int 0, .ref 2, .ref 7, .ref 22, .ref 37, .ref 38, .ref 42, .ref 46, .ref 49, .ref 54, .null, .null, .null, .null])))
def zcs185 : Sto := (70, va_up zcs184.2 69 (.inr (1, [.int 0, .null, .null, .null, .int 0, .int 0, .null, .null])))
def zcs186 : Sto := (70, va_up zcs185.2 69 (.inr (1, [.int 0, .null, .null, .null, .int 0, .int 0, .null, .null])))
def zcs187 : Sto := (71, va_up zcs186.2 70 (.inl (7, 6, .inr (.inr (.inr (.inr (fun _ => none)))))))
def zcs188 : Sto := (71, va_up zcs187.2 69 (.inr (1, [.int 0, .ref 70, .null, .null, .int 0, .int 0, .null, .null])))
def zcs189 : Sto := (72, va_up zcs188.2 71 (.inl (2, 6, .inl (fun _ => 0))))
def zcs190 : Sto := (72, va_up zcs189.2 69 (.inr (1, [.int 0, .ref 70, .ref 71, .null, .int 0, .int 0, .null, .null])))
def zcs191 : Sto := (73, va_up zcs190.2 72 (.inl (2, 6, .inl (fun _ => 0))))
def zcs192 : Sto := (73, va_up zcs191.2 69 (.inr (1, [.int 0, .ref 70, .ref 71, .ref 72, .int 0, .int 0, .null, .null])))
def zcs193 : Sto := (73, va_up zcs192.2 69 (.inr (1, [.int 0, .ref 70, .ref 71, .ref 72, .int 0, .int 0, .null, .null])))
def zcs194 : Sto := (73, va_up zcs193.2 69 (.inr (1, [.int 0, .ref 70, .ref 71, .ref 72, .int 0, .int 0, .null, .null])))
def zcs195 : Sto := (74, va_up zcs194.2 73 (.inl (2, 6, .inl (fun _ => 0))))
def zcs196 : Sto := (74, va_up zcs195.2 69 (.inr (1, [.int 0, .ref 70, .ref 71, .ref 72, .int 0, .int 0, .ref 73, .null])))
def zcs197 : Sto := (75, va_up zcs196.2 74 (.inl (2, 6, .inl (fun _ => 0))))
def zcs198 : Sto := (75, va_up zcs197.2 69 (.inr (1, [.int 0, .ref 70, .ref 71, .ref 72, .int 0, .int 0, .ref 73, .ref 74])))
def zcs199 : Sto := (76, va_up zcs198.2 75 (.inr (7, [.int 0, .int 0, .null, .null, .null, .null, .null, .null, .null])))
def zcs200 : Sto := (76, va_up zcs199.2 75 (.inr (7, [.int 0, .int 0, .null, .null, .null, .null, .null, .null, .null])))
def zcs201 : Sto := (76, va_up zcs200.2 75 (.inr (7, [.int 0, .int 0, .null, .null, .null, .null, .null, .null, .null])))
def zcs202 : Sto := (77, va_up zcs201.2 76 (.inl (2, 6, .inl (fun _ => 0))))
def zcs203 : Sto := (77, va_up zcs202.2 75 (.inr (7, [.int 0, .int 0, .ref 76, .null, .null, .null, .null, .null, .null])))
def zcs204 : Sto := (78, va_up zcs203.2 77 (.inl (2, 6, .inl (fun _ => 0))))
def zcs205 : Sto := (78, va_up zcs204.2 75 (.inr (7, [.int 0, .int 0, .ref 76, .ref 77, .null, .null, .null, .null, .null])))
def zcs206 : Sto := (79, va_up zcs205.2 78 (.inl (2, 6, .inl (fun _ => 0))))
def zcs207 : Sto := (79, va_up zcs206.2 75 (.inr (7, [.int 0, .int 0, .ref 76, .ref 77, .ref 78, .null, .null, .null, .null])))
def zcs208 : Sto := (80, va_up zcs207.2 79 (.inl (2, 6, .inl (fun _ => 0))))
def zcs209 : Sto := (80, va_up zcs208.2 75 (.inr (7, [.int 0, .int 0, .ref 76, .ref 77, .ref 78, .ref 79, .null, .null, .null])))
def zcs210 : Sto := (81, va_up zcs209.2 80 (.inl (2, 6, .inl (fun _ => 0))))
def zcs211 : Sto := (81, va_up zcs210.2 75 (.inr (7, [.int 0, .int 0, .ref 76, .ref 77, .ref 78, .ref 79, .ref 80, .null, .null])))
def zcs212 : Sto := (82, va_up zcs211.2 81 (.inl (2, 6, .inl (fun _ => 0))))
def zcs213 : Sto := (82, va_up zcs212.2 75 (.inr (7, [.int 0, .int 0, .ref 76, .ref 77, .ref 78, .ref 79, .ref 80, .ref 81, .null])))
def zcs214 : Sto := (83, va_up zcs213.2 82 (.inl (4, 6, .inl (fun _ => 0))))
def zcs215 : Sto := (83, va_up zcs214.2 75 (.inr (7, [.int 0, .int 0, .ref 76, .ref 77, .ref 78, .ref 79, .ref 80, .ref 81, .ref 82])))
set_option maxRecDepth 100000 in
theorem zct_X7_init_199 : fX7_init 75 zcs199 = some ((), zcs215) := by
  unfold fX7_init
  refine in_b (x := zcs200) rfl ?_
  refine in_b (x := zcs201) rfl ?_
  refine in_n (S' := zcs202) (q := 76) rfl rfl ?_
  refine in_b (x := zcs203) rfl ?_
  refine in_n (S' := zcs204) (q := 77) rfl rfl ?_
  refine in_b (x := zcs205) rfl ?_
  refine in_n (S' := zcs206) (q := 78) rfl rfl ?_
  refine in_b (x := zcs207) rfl ?_
  refine in_n (S' := zcs208) (q := 79) rfl rfl ?_
  refine in_b (x := zcs209) rfl ?_
  refine in_n (S' := zcs210) (q := 80) rfl rfl ?_
  refine in_b (x := zcs211) rfl ?_
  refine in_n (S' := zcs212) (q := 81) rfl rfl ?_
  refine in_b (x := zcs213) rfl ?_
  refine in_n (S' := zcs214) (q := 82) rfl rfl ?_
  refine in_b (x := zcs215) rfl ?_
  rfl
def zcf20 : Nat → Option Nat := va_up (fun _ => none) 0 (some 75)
def zcs216 : Sto := (83, va_up zcs215.2 70 (.inl (7, 6, .inr (.inr (.inr (.inr zcf20))))))
def zcs217 : Sto := (84, va_up zcs216.2 83 (.inr (7, [.int 0, .int 0, .null, .null, .null, .null, .null, .null, .null])))
def zcs218 : Sto := (84, va_up zcs217.2 83 (.inr (7, [.int 0, .int 0, .null, .null, .null, .null, .null, .null, .null])))
def zcs219 : Sto := (84, va_up zcs218.2 83 (.inr (7, [.int 0, .int 0, .null, .null, .null, .null, .null, .null, .null])))
def zcs220 : Sto := (85, va_up zcs219.2 84 (.inl (2, 6, .inl (fun _ => 0))))
def zcs221 : Sto := (85, va_up zcs220.2 83 (.inr (7, [.int 0, .int 0, .ref 84, .null, .null, .null, .null, .null, .null])))
def zcs222 : Sto := (86, va_up zcs221.2 85 (.inl (2, 6, .inl (fun _ => 0))))
def zcs223 : Sto := (86, va_up zcs222.2 83 (.inr (7, [.int 0, .int 0, .ref 84, .ref 85, .null, .null, .null, .null, .null])))
def zcs224 : Sto := (87, va_up zcs223.2 86 (.inl (2, 6, .inl (fun _ => 0))))
def zcs225 : Sto := (87, va_up zcs224.2 83 (.inr (7, [.int 0, .int 0, .ref 84, .ref 85, .ref 86, .null, .null, .null, .null])))
def zcs226 : Sto := (88, va_up zcs225.2 87 (.inl (2, 6, .inl (fun _ => 0))))
def zcs227 : Sto := (88, va_up zcs226.2 83 (.inr (7, [.int 0, .int 0, .ref 84, .ref 85, .ref 86, .ref 87, .null, .null, .null])))
def zcs228 : Sto := (89, va_up zcs227.2 88 (.inl (2, 6, .inl (fun _ => 0))))
def zcs229 : Sto := (89, va_up zcs228.2 83 (.inr (7, [.int 0, .int 0, .ref 84, .ref 85, .ref 86, .ref 87, .ref 88, .null, .null])))
def zcs230 : Sto := (90, va_up zcs229.2 89 (.inl (2, 6, .inl (fun _ => 0))))
def zcs231 : Sto := (90, va_up zcs230.2 83 (.inr (7, [.int 0, .int 0, .ref 84, .ref 85, .ref 86, .ref 87, .ref 88, .ref 89, .null])))
def zcs232 : Sto := (91, va_up zcs231.2 90 (.inl (4, 6, .inl (fun _ => 0))))
def zcs233 : Sto := (91, va_up zcs232.2 83 (.inr (7, [.int 0, .int 0, .ref 84, .ref 85, .ref 86, .ref 87, .ref 88, .ref 89, .ref 90])))
set_option maxRecDepth 100000 in
theorem zct_X7_init_217 : fX7_init 83 zcs217 = some ((), zcs233) := by
  unfold fX7_init
  refine in_b (x := zcs218) rfl ?_
  refine in_b (x := zcs219) rfl ?_
  refine in_n (S' := zcs220) (q := 84) rfl rfl ?_
  refine in_b (x := zcs221) rfl ?_
  refine in_n (S' := zcs222) (q := 85) rfl rfl ?_
  refine in_b (x := zcs223) rfl ?_
  refine in_n (S' := zcs224) (q := 86) rfl rfl ?_
  refine in_b (x := zcs225) rfl ?_
  refine in_n (S' := zcs226) (q := 87) rfl rfl ?_
  refine in_b (x := zcs227) rfl ?_
  refine in_n (S' := zcs228) (q := 88) rfl rfl ?_
  refine in_b (x := zcs229) rfl ?_
  refine in_n (S' := zcs230) (q := 89) rfl rfl ?_
  refine in_b (x := zcs231) rfl ?_
  refine in_n (S' := zcs232) (q := 90) rfl rfl ?_
  refine in_b (x := zcs233) rfl ?_
  rfl
def zcf21 : Nat → Option Nat := va_up zcf20 1 (some 83)
def zcs234 : Sto := (91, va_up zcs233.2 70 (.inl (7, 6, .inr (.inr (.inr (.inr zcf21))))))
def zcs235 : Sto := (92, va_up zcs234.2 91 (.inr (7, [.int 0, .int 0, .null, .null, .null, .null, .null, .null, .null])))
def zcs236 : Sto := (92, va_up zcs235.2 91 (.inr (7, [.int 0, .int 0, .null, .null, .null, .null, .null, .null, .null])))
def zcs237 : Sto := (92, va_up zcs236.2 91 (.inr (7, [.int 0, .int 0, .null, .null, .null, .null, .null, .null, .null])))
def zcs238 : Sto := (93, va_up zcs237.2 92 (.inl (2, 6, .inl (fun _ => 0))))
def zcs239 : Sto := (93, va_up zcs238.2 91 (.inr (7, [.int 0, .int 0, .ref 92, .null, .null, .null, .null, .null, .null])))
def zcs240 : Sto := (94, va_up zcs239.2 93 (.inl (2, 6, .inl (fun _ => 0))))
def zcs241 : Sto := (94, va_up zcs240.2 91 (.inr (7, [.int 0, .int 0, .ref 92, .ref 93, .null, .null, .null, .null, .null])))
def zcs242 : Sto := (95, va_up zcs241.2 94 (.inl (2, 6, .inl (fun _ => 0))))
def zcs243 : Sto := (95, va_up zcs242.2 91 (.inr (7, [.int 0, .int 0, .ref 92, .ref 93, .ref 94, .null, .null, .null, .null])))
def zcs244 : Sto := (96, va_up zcs243.2 95 (.inl (2, 6, .inl (fun _ => 0))))
def zcs245 : Sto := (96, va_up zcs244.2 91 (.inr (7, [.int 0, .int 0, .ref 92, .ref 93, .ref 94, .ref 95, .null, .null, .null])))
def zcs246 : Sto := (97, va_up zcs245.2 96 (.inl (2, 6, .inl (fun _ => 0))))
def zcs247 : Sto := (97, va_up zcs246.2 91 (.inr (7, [.int 0, .int 0, .ref 92, .ref 93, .ref 94, .ref 95, .ref 96, .null, .null])))
def zcs248 : Sto := (98, va_up zcs247.2 97 (.inl (2, 6, .inl (fun _ => 0))))
def zcs249 : Sto := (98, va_up zcs248.2 91 (.inr (7, [.int 0, .int 0, .ref 92, .ref 93, .ref 94, .ref 95, .ref 96, .ref 97, .null])))
def zcs250 : Sto := (99, va_up zcs249.2 98 (.inl (4, 6, .inl (fun _ => 0))))
def zcs251 : Sto := (99, va_up zcs250.2 91 (.inr (7, [.int 0, .int 0, .ref 92, .ref 93, .ref 94, .ref 95, .ref 96, .ref 97, .ref 98])))
set_option maxRecDepth 100000 in
theorem zct_X7_init_235 : fX7_init 91 zcs235 = some ((), zcs251) := by
  unfold fX7_init
  refine in_b (x := zcs236) rfl ?_
  refine in_b (x := zcs237) rfl ?_
  refine in_n (S' := zcs238) (q := 92) rfl rfl ?_
  refine in_b (x := zcs239) rfl ?_
  refine in_n (S' := zcs240) (q := 93) rfl rfl ?_
  refine in_b (x := zcs241) rfl ?_
  refine in_n (S' := zcs242) (q := 94) rfl rfl ?_
  refine in_b (x := zcs243) rfl ?_
  refine in_n (S' := zcs244) (q := 95) rfl rfl ?_
  refine in_b (x := zcs245) rfl ?_
  refine in_n (S' := zcs246) (q := 96) rfl rfl ?_
  refine in_b (x := zcs247) rfl ?_
  refine in_n (S' := zcs248) (q := 97) rfl rfl ?_
  refine in_b (x := zcs249) rfl ?_
  refine in_n (S' := zcs250) (q := 98) rfl rfl ?_
  refine in_b (x := zcs251) rfl ?_
  rfl
def zcf22 : Nat → Option Nat := va_up zcf21 2 (some 91)
def zcs252 : Sto := (99, va_up zcs251.2 70 (.inl (7, 6, .inr (.inr (.inr (.inr zcf22))))))
def zcs253 : Sto := (100, va_up zcs252.2 99 (.inr (7, [.int 0, .int 0, .null, .null, .null, .null, .null, .null, .null])))
def zcs254 : Sto := (100, va_up zcs253.2 99 (.inr (7, [.int 0, .int 0, .null, .null, .null, .null, .null, .null, .null])))
def zcs255 : Sto := (100, va_up zcs254.2 99 (.inr (7, [.int 0, .int 0, .null, .null, .null, .null, .null, .null, .null])))
def zcs256 : Sto := (101, va_up zcs255.2 100 (.inl (2, 6, .inl (fun _ => 0))))
def zcs257 : Sto := (101, va_up zcs256.2 99 (.inr (7, [.int 0, .int 0, .ref 100, .null, .null, .null, .null, .null, .null])))
def zcs258 : Sto := (102, va_up zcs257.2 101 (.inl (2, 6, .inl (fun _ => 0))))
def zcs259 : Sto := (102, va_up zcs258.2 99 (.inr (7, [.int 0, .int 0, .ref 100, .ref 101, .null, .null, .null, .null, .null])))
def zcs260 : Sto := (103, va_up zcs259.2 102 (.inl (2, 6, .inl (fun _ => 0))))
def zcs261 : Sto := (103, va_up zcs260.2 99 (.inr (7, [.int 0, .int 0, .ref 100, .ref 101, .ref 102, .null, .null, .null, .null])))
def zcs262 : Sto := (104, va_up zcs261.2 103 (.inl (2, 6, .inl (fun _ => 0))))
def zcs263 : Sto := (104, va_up zcs262.2 99 (.inr (7, [.int 0, .int 0, .ref 100, .ref 101, .ref 102, .ref 103, .null, .null, .null])))
def zcs264 : Sto := (105, va_up zcs263.2 104 (.inl (2, 6, .inl (fun _ => 0))))
def zcs265 : Sto := (105, va_up zcs264.2 99 (.inr (7, [.int 0, .int 0, .ref 100, .ref 101, .ref 102, .ref 103, .ref 104, .null, .null])))
def zcs266 : Sto := (106, va_up zcs265.2 105 (.inl (2, 6, .inl (fun _ => 0))))
def zcs267 : Sto := (106, va_up zcs266.2 99 (.inr (7, [.int 0, .int 0, .ref 100, .ref 101, .ref 102, .ref 103, .ref 104, .ref 105, .null])))
def zcs268 : Sto := (107, va_up zcs267.2 106 (.inl (4, 6, .inl (fun _ => 0))))
def zcs269 : Sto := (107, va_up zcs268.2 99 (.inr (7, [.int 0, .int 0, .ref 100, .ref 101, .ref 102, .ref 103, .ref 104, .ref 105, .ref 106])))
set_option maxRecDepth 100000 in
theorem zct_X7_init_253 : fX7_init 99 zcs253 = some ((), zcs269) := by
  unfold fX7_init
  refine in_b (x := zcs254) rfl ?_
  refine in_b (x := zcs255) rfl ?_
  refine in_n (S' := zcs256) (q := 100) rfl rfl ?_
  refine in_b (x := zcs257) rfl ?_
  refine in_n (S' := zcs258) (q := 101) rfl rfl ?_
  refine in_b (x := zcs259) rfl ?_
  refine in_n (S' := zcs260) (q := 102) rfl rfl ?_
  refine in_b (x := zcs261) rfl ?_
  refine in_n (S' := zcs262) (q := 103) rfl rfl ?_
  refine in_b (x := zcs263) rfl ?_
  refine in_n (S' := zcs264) (q := 104) rfl rfl ?_
  refine in_b (x := zcs265) rfl ?_
  refine in_n (S' := zcs266) (q := 105) rfl rfl ?_
  refine in_b (x := zcs267) rfl ?_
  refine in_n (S' := zcs268) (q := 106) rfl rfl ?_
  refine in_b (x := zcs269) rfl ?_
  rfl
def zcf23 : Nat → Option Nat := va_up zcf22 3 (some 99)
def zcs270 : Sto := (107, va_up zcs269.2 70 (.inl (7, 6, .inr (.inr (.inr (.inr zcf23))))))
def zcs271 : Sto := (108, va_up zcs270.2 107 (.inr (7, [.int 0, .int 0, .null, .null, .null, .null, .null, .null, .null])))
def zcs272 : Sto := (108, va_up zcs271.2 107 (.inr (7, [.int 0, .int 0, .null, .null, .null, .null, .null, .null, .null])))
def zcs273 : Sto := (108, va_up zcs272.2 107 (.inr (7, [.int 0, .int 0, .null, .null, .null, .null, .null, .null, .null])))
def zcs274 : Sto := (109, va_up zcs273.2 108 (.inl (2, 6, .inl (fun _ => 0))))
def zcs275 : Sto := (109, va_up zcs274.2 107 (.inr (7, [.int 0, .int 0, .ref 108, .null, .null, .null, .null, .null, .null])))
def zcs276 : Sto := (110, va_up zcs275.2 109 (.inl (2, 6, .inl (fun _ => 0))))
def zcs277 : Sto := (110, va_up zcs276.2 107 (.inr (7, [.int 0, .int 0, .ref 108, .ref 109, .null, .null, .null, .null, .null])))
def zcs278 : Sto := (111, va_up zcs277.2 110 (.inl (2, 6, .inl (fun _ => 0))))
def zcs279 : Sto := (111, va_up zcs278.2 107 (.inr (7, [.int 0, .int 0, .ref 108, .ref 109, .ref 110, .null, .null, .null, .null])))
def zcs280 : Sto := (112, va_up zcs279.2 111 (.inl (2, 6, .inl (fun _ => 0))))
def zcs281 : Sto := (112, va_up zcs280.2 107 (.inr (7, [.int 0, .int 0, .ref 108, .ref 109, .ref 110, .ref 111, .null, .null, .null])))
def zcs282 : Sto := (113, va_up zcs281.2 112 (.inl (2, 6, .inl (fun _ => 0))))
def zcs283 : Sto := (113, va_up zcs282.2 107 (.inr (7, [.int 0, .int 0, .ref 108, .ref 109, .ref 110, .ref 111, .ref 112, .null, .null])))
def zcs284 : Sto := (114, va_up zcs283.2 113 (.inl (2, 6, .inl (fun _ => 0))))
def zcs285 : Sto := (114, va_up zcs284.2 107 (.inr (7, [.int 0, .int 0, .ref 108, .ref 109, .ref 110, .ref 111, .ref 112, .ref 113, .null])))
def zcs286 : Sto := (115, va_up zcs285.2 114 (.inl (4, 6, .inl (fun _ => 0))))
def zcs287 : Sto := (115, va_up zcs286.2 107 (.inr (7, [.int 0, .int 0, .ref 108, .ref 109, .ref 110, .ref 111, .ref 112, .ref 113, .ref 114])))
set_option maxRecDepth 100000 in
theorem zct_X7_init_271 : fX7_init 107 zcs271 = some ((), zcs287) := by
  unfold fX7_init
  refine in_b (x := zcs272) rfl ?_
  refine in_b (x := zcs273) rfl ?_
  refine in_n (S' := zcs274) (q := 108) rfl rfl ?_
  refine in_b (x := zcs275) rfl ?_
  refine in_n (S' := zcs276) (q := 109) rfl rfl ?_
  refine in_b (x := zcs277) rfl ?_
  refine in_n (S' := zcs278) (q := 110) rfl rfl ?_
  refine in_b (x := zcs279) rfl ?_
  refine in_n (S' := zcs280) (q := 111) rfl rfl ?_
  refine in_b (x := zcs281) rfl ?_
  refine in_n (S' := zcs282) (q := 112) rfl rfl ?_
  refine in_b (x := zcs283) rfl ?_
  refine in_n (S' := zcs284) (q := 113) rfl rfl ?_
  refine in_b (x := zcs285) rfl ?_
  refine in_n (S' := zcs286) (q := 114) rfl rfl ?_
  refine in_b (x := zcs287) rfl ?_
  rfl
def zcf24 : Nat → Option Nat := va_up zcf23 4 (some 107)
def zcs288 : Sto := (115, va_up zcs287.2 70 (.inl (7, 6, .inr (.inr (.inr (.inr zcf24))))))
def zcs289 : Sto := (116, va_up zcs288.2 115 (.inr (7, [.int 0, .int 0, .null, .null, .null, .null, .null, .null, .null])))
def zcs290 : Sto := (116, va_up zcs289.2 115 (.inr (7, [.int 0, .int 0, .null, .null, .null, .null, .null, .null, .null])))
def zcs291 : Sto := (116, va_up zcs290.2 115 (.inr (7, [.int 0, .int 0, .null, .null, .null, .null, .null, .null, .null])))
def zcs292 : Sto := (117, va_up zcs291.2 116 (.inl (2, 6, .inl (fun _ => 0))))
def zcs293 : Sto := (117, va_up zcs292.2 115 (.inr (7, [.int 0, .int 0, .ref 116, .null, .null, .null, .null, .null, .null])))
def zcs294 : Sto := (118, va_up zcs293.2 117 (.inl (2, 6, .inl (fun _ => 0))))
def zcs295 : Sto := (118, va_up zcs294.2 115 (.inr (7, [.int 0, .int 0, .ref 116, .ref 117, .null, .null, .null, .null, .null])))
def zcs296 : Sto := (119, va_up zcs295.2 118 (.inl (2, 6, .inl (fun _ => 0))))
def zcs297 : Sto := (119, va_up zcs296.2 115 (.inr (7, [.int 0, .int 0, .ref 116, .ref 117, .ref 118, .null, .null, .null, .null])))
def zcs298 : Sto := (120, va_up zcs297.2 119 (.inl (2, 6, .inl (fun _ => 0))))
def zcs299 : Sto := (120, va_up zcs298.2 115 (.inr (7, [.int 0, .int 0, .ref 116, .ref 117, .ref 118, .ref 119, .null, .null, .null])))
def zcs300 : Sto := (121, va_up zcs299.2 120 (.inl (2, 6, .inl (fun _ => 0))))
def zcs301 : Sto := (121, va_up zcs300.2 115 (.inr (7, [.int 0, .int 0, .ref 116, .ref 117, .ref 118, .ref 119, .ref 120, .null, .null])))
def zcs302 : Sto := (122, va_up zcs301.2 121 (.inl (2, 6, .inl (fun _ => 0))))
def zcs303 : Sto := (122, va_up zcs302.2 115 (.inr (7, [.int 0, .int 0, .ref 116, .ref 117, .ref 118, .ref 119, .ref 120, .ref 121, .null])))
def zcs304 : Sto := (123, va_up zcs303.2 122 (.inl (4, 6, .inl (fun _ => 0))))
def zcs305 : Sto := (123, va_up zcs304.2 115 (.inr (7, [.int 0, .int 0, .ref 116, .ref 117, .ref 118, .ref 119, .ref 120, .ref 121, .ref 122])))
set_option maxRecDepth 100000 in
theorem zct_X7_init_289 : fX7_init 115 zcs289 = some ((), zcs305) := by
  unfold fX7_init
  refine in_b (x := zcs290) rfl ?_
  refine in_b (x := zcs291) rfl ?_
  refine in_n (S' := zcs292) (q := 116) rfl rfl ?_
  refine in_b (x := zcs293) rfl ?_
  refine in_n (S' := zcs294) (q := 117) rfl rfl ?_
  refine in_b (x := zcs295) rfl ?_
  refine in_n (S' := zcs296) (q := 118) rfl rfl ?_
  refine in_b (x := zcs297) rfl ?_
  refine in_n (S' := zcs298) (q := 119) rfl rfl ?_
  refine in_b (x := zcs299) rfl ?_
  refine in_n (S' := zcs300) (q := 120) rfl rfl ?_
  refine in_b (x := zcs301) rfl ?_
  refine in_n (S' := zcs302) (q := 121) rfl rfl ?_
  refine in_b (x := zcs303) rfl ?_
  refine in_n (S' := zcs304) (q := 122) rfl rfl ?_
  refine in_b (x := zcs305) rfl ?_
  rfl
def zcf25 : Nat → Option Nat := va_up zcf24 5 (some 115)
def zcs306 : Sto := (123, va_up zcs305.2 70 (.inl (7, 6, .inr (.inr (.inr (.inr zcf25))))))
set_option maxRecDepth 100000 in
theorem zct_X1_init_185 : fX1_init 69 zcs185 = some ((), zcs306) := by
  unfold fX1_init
  refine in_b (x := zcs186) rfl ?_
  refine in_n (S' := zcs187) (q := 70) rfl rfl ?_
  refine in_b (x := zcs188) rfl ?_
  refine in_n (S' := zcs189) (q := 71) rfl rfl ?_
  refine in_b (x := zcs190) rfl ?_
  refine in_n (S' := zcs191) (q := 72) rfl rfl ?_
  refine in_b (x := zcs192) rfl ?_
  refine in_b (x := zcs193) rfl ?_
  refine in_b (x := zcs194) rfl ?_
  refine in_n (S' := zcs195) (q := 73) rfl rfl ?_
  refine in_b (x := zcs196) rfl ?_
  refine in_n (S' := zcs197) (q := 74) rfl rfl ?_
  refine in_b (x := zcs198) rfl ?_
  refine in_b (x := 70) rfl ?_
  refine in_n (S' := zcs199) (q := 75) rfl rfl ?_
  refine in_c (x := ()) (s := zcs215) zct_X7_init_199 ?_
  refine in_b (x := zcs216) (in_sR (j := 0) (n := 6) (f := (fun _ => none)) rfl ⟨_, rfl⟩ (by decide) (by decide)) ?_
  refine in_b (x := 70) rfl ?_
  refine in_n (S' := zcs217) (q := 83) rfl rfl ?_
  refine in_c (x := ()) (s := zcs233) zct_X7_init_217 ?_
  refine in_b (x := zcs234) (in_sR (j := 1) (n := 6) (f := zcf20) rfl ⟨_, rfl⟩ (by decide) (by decide)) ?_
  refine in_b (x := 70) rfl ?_
  refine in_n (S' := zcs235) (q := 91) rfl rfl ?_
  refine in_c (x := ()) (s := zcs251) zct_X7_init_235 ?_
  refine in_b (x := zcs252) (in_sR (j := 2) (n := 6) (f := zcf21) rfl ⟨_, rfl⟩ (by decide) (by decide)) ?_
  refine in_b (x := 70) rfl ?_
  refine in_n (S' := zcs253) (q := 99) rfl rfl ?_
  refine in_c (x := ()) (s := zcs269) zct_X7_init_253 ?_
  refine in_b (x := zcs270) (in_sR (j := 3) (n := 6) (f := zcf22) rfl ⟨_, rfl⟩ (by decide) (by decide)) ?_
  refine in_b (x := 70) rfl ?_
  refine in_n (S' := zcs271) (q := 107) rfl rfl ?_
  refine in_c (x := ()) (s := zcs287) zct_X7_init_271 ?_
  refine in_b (x := zcs288) (in_sR (j := 4) (n := 6) (f := zcf23) rfl ⟨_, rfl⟩ (by decide) (by decide)) ?_
  refine in_b (x := 70) rfl ?_
  refine in_n (S' := zcs289) (q := 115) rfl rfl ?_
  refine in_c (x := ()) (s := zcs305) zct_X7_init_289 ?_
  refine in_b (x := zcs306) (in_sR (j := 5) (n := 6) (f := zcf24) rfl ⟨_, rfl⟩ (by decide) (by decide)) ?_
  rfl
def zcs307 : Sto := (123, va_up zcs306.2 0 (.inr (11, [.ref 1, .int 0, .ref 2, .ref 7, .ref 22, .ref 37, .ref 38, .ref 42, .ref 46, .ref 49, .ref 54, .ref 69, .null, .null, .null])))
def zcs308 : Sto := (124, va_up zcs307.2 123 (.inr (2, [.null, .null, .null])))
def zcs309 : Sto := (125, va_up zcs308.2 124 (.inl (6, 64, .inr (.inr (.inr (.inr (fun _ => none)))))))
def zcs310 : Sto := (125, va_up zcs309.2 123 (.inr (2, [.ref 124, .null, .null])))
def zcs311 : Sto := (126, va_up zcs310.2 125 (.inl (2, 64, .inl (fun _ => 0))))
def zcs312 : Sto := (126, va_up zcs311.2 123 (.inr (2, [.ref 124, .ref 125, .null])))
def zcs313 : Sto := (127, va_up zcs312.2 126 (.inr (6, [.long 0, .long 0])))
def zcs314 : Sto := (127, va_up zcs313.2 126 (.inr (6, [.long 0, .long 0])))
def zcs315 : Sto := (127, va_up zcs314.2 126 (.inr (6, [.long 0, .long 1])))
set_option maxRecDepth 100000 in
theorem zct_X6_init_313 : fX6_init 126 zcs313 = some ((), zcs315) := by
  unfold fX6_init
  refine in_b (x := zcs314) rfl ?_
  refine in_b (x := zcs315) rfl ?_
  rfl
def zcs316 : Sto := (127, va_up zcs315.2 123 (.inr (2, [.ref 124, .ref 125, .ref 126])))
def zcs317 : Sto := (128, va_up zcs316.2 127 (.inr (6, [.long 0, .long 0])))
def zcs318 : Sto := (128, va_up zcs317.2 127 (.inr (6, [.long 0, .long 0])))
def zcs319 : Sto := (128, va_up zcs318.2 127 (.inr (6, [.long 0, .long 1])))
set_option maxRecDepth 100000 in
theorem zct_X6_init_317 : fX6_init 127 zcs317 = some ((), zcs319) := by
  unfold fX6_init
  refine in_b (x := zcs318) rfl ?_
  refine in_b (x := zcs319) rfl ?_
  rfl
def zcf26 : Nat → Option Nat := va_up (fun _ => none) 0 (some 127)
def zcs320 : Sto := (128, va_up zcs319.2 124 (.inl (6, 64, .inr (.inr (.inr (.inr zcf26))))))
def zcs321 : Sto := (129, va_up zcs320.2 128 (.inr (6, [.long 0, .long 0])))
def zcs322 : Sto := (129, va_up zcs321.2 128 (.inr (6, [.long 0, .long 0])))
def zcs323 : Sto := (129, va_up zcs322.2 128 (.inr (6, [.long 0, .long 1])))
set_option maxRecDepth 100000 in
theorem zct_X6_init_321 : fX6_init 128 zcs321 = some ((), zcs323) := by
  unfold fX6_init
  refine in_b (x := zcs322) rfl ?_
  refine in_b (x := zcs323) rfl ?_
  rfl
def zcf27 : Nat → Option Nat := va_up zcf26 1 (some 128)
def zcs324 : Sto := (129, va_up zcs323.2 124 (.inl (6, 64, .inr (.inr (.inr (.inr zcf27))))))
def zcs325 : Sto := (130, va_up zcs324.2 129 (.inr (6, [.long 0, .long 0])))
def zcs326 : Sto := (130, va_up zcs325.2 129 (.inr (6, [.long 0, .long 0])))
def zcs327 : Sto := (130, va_up zcs326.2 129 (.inr (6, [.long 0, .long 1])))
set_option maxRecDepth 100000 in
theorem zct_X6_init_325 : fX6_init 129 zcs325 = some ((), zcs327) := by
  unfold fX6_init
  refine in_b (x := zcs326) rfl ?_
  refine in_b (x := zcs327) rfl ?_
  rfl
def zcf28 : Nat → Option Nat := va_up zcf27 2 (some 129)
def zcs328 : Sto := (130, va_up zcs327.2 124 (.inl (6, 64, .inr (.inr (.inr (.inr zcf28))))))
def zcs329 : Sto := (131, va_up zcs328.2 130 (.inr (6, [.long 0, .long 0])))
def zcs330 : Sto := (131, va_up zcs329.2 130 (.inr (6, [.long 0, .long 0])))
def zcs331 : Sto := (131, va_up zcs330.2 130 (.inr (6, [.long 0, .long 1])))
set_option maxRecDepth 100000 in
theorem zct_X6_init_329 : fX6_init 130 zcs329 = some ((), zcs331) := by
  unfold fX6_init
  refine in_b (x := zcs330) rfl ?_
  refine in_b (x := zcs331) rfl ?_
  rfl
def zcf29 : Nat → Option Nat := va_up zcf28 3 (some 130)
def zcs332 : Sto := (131, va_up zcs331.2 124 (.inl (6, 64, .inr (.inr (.inr (.inr zcf29))))))
def zcs333 : Sto := (132, va_up zcs332.2 131 (.inr (6, [.long 0, .long 0])))
def zcs334 : Sto := (132, va_up zcs333.2 131 (.inr (6, [.long 0, .long 0])))
def zcs335 : Sto := (132, va_up zcs334.2 131 (.inr (6, [.long 0, .long 1])))
set_option maxRecDepth 100000 in
theorem zct_X6_init_333 : fX6_init 131 zcs333 = some ((), zcs335) := by
  unfold fX6_init
  refine in_b (x := zcs334) rfl ?_
  refine in_b (x := zcs335) rfl ?_
  rfl
def zcf30 : Nat → Option Nat := va_up zcf29 4 (some 131)
def zcs336 : Sto := (132, va_up zcs335.2 124 (.inl (6, 64, .inr (.inr (.inr (.inr zcf30))))))
def zcs337 : Sto := (133, va_up zcs336.2 132 (.inr (6, [.long 0, .long 0])))
def zcs338 : Sto := (133, va_up zcs337.2 132 (.inr (6, [.long 0, .long 0])))
def zcs339 : Sto := (133, va_up zcs338.2 132 (.inr (6, [.long 0, .long 1])))
set_option maxRecDepth 100000 in
theorem zct_X6_init_337 : fX6_init 132 zcs337 = some ((), zcs339) := by
  unfold fX6_init
  refine in_b (x := zcs338) rfl ?_
  refine in_b (x := zcs339) rfl ?_
  rfl
def zcf31 : Nat → Option Nat := va_up zcf30 5 (some 132)
def zcs340 : Sto := (133, va_up zcs339.2 124 (.inl (6, 64, .inr (.inr (.inr (.inr zcf31))))))
def zcs341 : Sto := (134, va_up zcs340.2 133 (.inr (6, [.long 0, .long 0])))
def zcs342 : Sto := (134, va_up zcs341.2 133 (.inr (6, [.long 0, .long 0])))
def zcs343 : Sto := (134, va_up zcs342.2 133 (.inr (6, [.long 0, .long 1])))
set_option maxRecDepth 100000 in
theorem zct_X6_init_341 : fX6_init 133 zcs341 = some ((), zcs343) := by
  unfold fX6_init
  refine in_b (x := zcs342) rfl ?_
  refine in_b (x := zcs343) rfl ?_
  rfl
def zcf32 : Nat → Option Nat := va_up zcf31 6 (some 133)
def zcs344 : Sto := (134, va_up zcs343.2 124 (.inl (6, 64, .inr (.inr (.inr (.inr zcf32))))))
def zcs345 : Sto := (135, va_up zcs344.2 134 (.inr (6, [.long 0, .long 0])))
def zcs346 : Sto := (135, va_up zcs345.2 134 (.inr (6, [.long 0, .long 0])))
def zcs347 : Sto := (135, va_up zcs346.2 134 (.inr (6, [.long 0, .long 1])))
set_option maxRecDepth 100000 in
theorem zct_X6_init_345 : fX6_init 134 zcs345 = some ((), zcs347) := by
  unfold fX6_init
  refine in_b (x := zcs346) rfl ?_
  refine in_b (x := zcs347) rfl ?_
  rfl
def zcf33 : Nat → Option Nat := va_up zcf32 7 (some 134)
def zcs348 : Sto := (135, va_up zcs347.2 124 (.inl (6, 64, .inr (.inr (.inr (.inr zcf33))))))
def zcs349 : Sto := (136, va_up zcs348.2 135 (.inr (6, [.long 0, .long 0])))
def zcs350 : Sto := (136, va_up zcs349.2 135 (.inr (6, [.long 0, .long 0])))
def zcs351 : Sto := (136, va_up zcs350.2 135 (.inr (6, [.long 0, .long 1])))
set_option maxRecDepth 100000 in
theorem zct_X6_init_349 : fX6_init 135 zcs349 = some ((), zcs351) := by
  unfold fX6_init
  refine in_b (x := zcs350) rfl ?_
  refine in_b (x := zcs351) rfl ?_
  rfl
def zcf34 : Nat → Option Nat := va_up zcf33 8 (some 135)
def zcs352 : Sto := (136, va_up zcs351.2 124 (.inl (6, 64, .inr (.inr (.inr (.inr zcf34))))))
def zcs353 : Sto := (137, va_up zcs352.2 136 (.inr (6, [.long 0, .long 0])))
def zcs354 : Sto := (137, va_up zcs353.2 136 (.inr (6, [.long 0, .long 0])))
def zcs355 : Sto := (137, va_up zcs354.2 136 (.inr (6, [.long 0, .long 1])))
set_option maxRecDepth 100000 in
theorem zct_X6_init_353 : fX6_init 136 zcs353 = some ((), zcs355) := by
  unfold fX6_init
  refine in_b (x := zcs354) rfl ?_
  refine in_b (x := zcs355) rfl ?_
  rfl
def zcf35 : Nat → Option Nat := va_up zcf34 9 (some 136)
def zcs356 : Sto := (137, va_up zcs355.2 124 (.inl (6, 64, .inr (.inr (.inr (.inr zcf35))))))
def zcs357 : Sto := (138, va_up zcs356.2 137 (.inr (6, [.long 0, .long 0])))
def zcs358 : Sto := (138, va_up zcs357.2 137 (.inr (6, [.long 0, .long 0])))
def zcs359 : Sto := (138, va_up zcs358.2 137 (.inr (6, [.long 0, .long 1])))
set_option maxRecDepth 100000 in
theorem zct_X6_init_357 : fX6_init 137 zcs357 = some ((), zcs359) := by
  unfold fX6_init
  refine in_b (x := zcs358) rfl ?_
  refine in_b (x := zcs359) rfl ?_
  rfl
def zcf36 : Nat → Option Nat := va_up zcf35 10 (some 137)
def zcs360 : Sto := (138, va_up zcs359.2 124 (.inl (6, 64, .inr (.inr (.inr (.inr zcf36))))))
def zcs361 : Sto := (139, va_up zcs360.2 138 (.inr (6, [.long 0, .long 0])))
def zcs362 : Sto := (139, va_up zcs361.2 138 (.inr (6, [.long 0, .long 0])))
def zcs363 : Sto := (139, va_up zcs362.2 138 (.inr (6, [.long 0, .long 1])))
set_option maxRecDepth 100000 in
theorem zct_X6_init_361 : fX6_init 138 zcs361 = some ((), zcs363) := by
  unfold fX6_init
  refine in_b (x := zcs362) rfl ?_
  refine in_b (x := zcs363) rfl ?_
  rfl
def zcf37 : Nat → Option Nat := va_up zcf36 11 (some 138)
def zcs364 : Sto := (139, va_up zcs363.2 124 (.inl (6, 64, .inr (.inr (.inr (.inr zcf37))))))
def zcs365 : Sto := (140, va_up zcs364.2 139 (.inr (6, [.long 0, .long 0])))
def zcs366 : Sto := (140, va_up zcs365.2 139 (.inr (6, [.long 0, .long 0])))
def zcs367 : Sto := (140, va_up zcs366.2 139 (.inr (6, [.long 0, .long 1])))
set_option maxRecDepth 100000 in
theorem zct_X6_init_365 : fX6_init 139 zcs365 = some ((), zcs367) := by
  unfold fX6_init
  refine in_b (x := zcs366) rfl ?_
  refine in_b (x := zcs367) rfl ?_
  rfl
def zcf38 : Nat → Option Nat := va_up zcf37 12 (some 139)
def zcs368 : Sto := (140, va_up zcs367.2 124 (.inl (6, 64, .inr (.inr (.inr (.inr zcf38))))))
def zcs369 : Sto := (141, va_up zcs368.2 140 (.inr (6, [.long 0, .long 0])))
def zcs370 : Sto := (141, va_up zcs369.2 140 (.inr (6, [.long 0, .long 0])))
def zcs371 : Sto := (141, va_up zcs370.2 140 (.inr (6, [.long 0, .long 1])))
set_option maxRecDepth 100000 in
theorem zct_X6_init_369 : fX6_init 140 zcs369 = some ((), zcs371) := by
  unfold fX6_init
  refine in_b (x := zcs370) rfl ?_
  refine in_b (x := zcs371) rfl ?_
  rfl
def zcf39 : Nat → Option Nat := va_up zcf38 13 (some 140)
def zcs372 : Sto := (141, va_up zcs371.2 124 (.inl (6, 64, .inr (.inr (.inr (.inr zcf39))))))
def zcs373 : Sto := (142, va_up zcs372.2 141 (.inr (6, [.long 0, .long 0])))
def zcs374 : Sto := (142, va_up zcs373.2 141 (.inr (6, [.long 0, .long 0])))
def zcs375 : Sto := (142, va_up zcs374.2 141 (.inr (6, [.long 0, .long 1])))
set_option maxRecDepth 100000 in
theorem zct_X6_init_373 : fX6_init 141 zcs373 = some ((), zcs375) := by
  unfold fX6_init
  refine in_b (x := zcs374) rfl ?_
  refine in_b (x := zcs375) rfl ?_
  rfl
def zcf40 : Nat → Option Nat := va_up zcf39 14 (some 141)
def zcs376 : Sto := (142, va_up zcs375.2 124 (.inl (6, 64, .inr (.inr (.inr (.inr zcf40))))))
def zcs377 : Sto := (143, va_up zcs376.2 142 (.inr (6, [.long 0, .long 0])))
def zcs378 : Sto := (143, va_up zcs377.2 142 (.inr (6, [.long 0, .long 0])))
def zcs379 : Sto := (143, va_up zcs378.2 142 (.inr (6, [.long 0, .long 1])))
set_option maxRecDepth 100000 in
theorem zct_X6_init_377 : fX6_init 142 zcs377 = some ((), zcs379) := by
  unfold fX6_init
  refine in_b (x := zcs378) rfl ?_
  refine in_b (x := zcs379) rfl ?_
  rfl
def zcf41 : Nat → Option Nat := va_up zcf40 15 (some 142)
def zcs380 : Sto := (143, va_up zcs379.2 124 (.inl (6, 64, .inr (.inr (.inr (.inr zcf41))))))
def zcs381 : Sto := (144, va_up zcs380.2 143 (.inr (6, [.long 0, .long 0])))
def zcs382 : Sto := (144, va_up zcs381.2 143 (.inr (6, [.long 0, .long 0])))
def zcs383 : Sto := (144, va_up zcs382.2 143 (.inr (6, [.long 0, .long 1])))
set_option maxRecDepth 100000 in
theorem zct_X6_init_381 : fX6_init 143 zcs381 = some ((), zcs383) := by
  unfold fX6_init
  refine in_b (x := zcs382) rfl ?_
  refine in_b (x := zcs383) rfl ?_
  rfl
def zcf42 : Nat → Option Nat := va_up zcf41 16 (some 143)
def zcs384 : Sto := (144, va_up zcs383.2 124 (.inl (6, 64, .inr (.inr (.inr (.inr zcf42))))))
def zcs385 : Sto := (145, va_up zcs384.2 144 (.inr (6, [.long 0, .long 0])))
def zcs386 : Sto := (145, va_up zcs385.2 144 (.inr (6, [.long 0, .long 0])))
def zcs387 : Sto := (145, va_up zcs386.2 144 (.inr (6, [.long 0, .long 1])))
set_option maxRecDepth 100000 in
theorem zct_X6_init_385 : fX6_init 144 zcs385 = some ((), zcs387) := by
  unfold fX6_init
  refine in_b (x := zcs386) rfl ?_
  refine in_b (x := zcs387) rfl ?_
  rfl
def zcf43 : Nat → Option Nat := va_up zcf42 17 (some 144)
def zcs388 : Sto := (145, va_up zcs387.2 124 (.inl (6, 64, .inr (.inr (.inr (.inr zcf43))))))
def zcs389 : Sto := (146, va_up zcs388.2 145 (.inr (6, [.long 0, .long 0])))
def zcs390 : Sto := (146, va_up zcs389.2 145 (.inr (6, [.long 0, .long 0])))
def zcs391 : Sto := (146, va_up zcs390.2 145 (.inr (6, [.long 0, .long 1])))
set_option maxRecDepth 100000 in
theorem zct_X6_init_389 : fX6_init 145 zcs389 = some ((), zcs391) := by
  unfold fX6_init
  refine in_b (x := zcs390) rfl ?_
  refine in_b (x := zcs391) rfl ?_
  rfl
def zcf44 : Nat → Option Nat := va_up zcf43 18 (some 145)
def zcs392 : Sto := (146, va_up zcs391.2 124 (.inl (6, 64, .inr (.inr (.inr (.inr zcf44))))))
def zcs393 : Sto := (147, va_up zcs392.2 146 (.inr (6, [.long 0, .long 0])))
def zcs394 : Sto := (147, va_up zcs393.2 146 (.inr (6, [.long 0, .long 0])))
def zcs395 : Sto := (147, va_up zcs394.2 146 (.inr (6, [.long 0, .long 1])))
set_option maxRecDepth 100000 in
theorem zct_X6_init_393 : fX6_init 146 zcs393 = some ((), zcs395) := by
  unfold fX6_init
  refine in_b (x := zcs394) rfl ?_
  refine in_b (x := zcs395) rfl ?_
  rfl
def zcf45 : Nat → Option Nat := va_up zcf44 19 (some 146)
def zcs396 : Sto := (147, va_up zcs395.2 124 (.inl (6, 64, .inr (.inr (.inr (.inr zcf45))))))
def zcs397 : Sto := (148, va_up zcs396.2 147 (.inr (6, [.long 0, .long 0])))
def zcs398 : Sto := (148, va_up zcs397.2 147 (.inr (6, [.long 0, .long 0])))
def zcs399 : Sto := (148, va_up zcs398.2 147 (.inr (6, [.long 0, .long 1])))
set_option maxRecDepth 100000 in
theorem zct_X6_init_397 : fX6_init 147 zcs397 = some ((), zcs399) := by
  unfold fX6_init
  refine in_b (x := zcs398) rfl ?_
  refine in_b (x := zcs399) rfl ?_
  rfl
def zcf46 : Nat → Option Nat := va_up zcf45 20 (some 147)
def zcs400 : Sto := (148, va_up zcs399.2 124 (.inl (6, 64, .inr (.inr (.inr (.inr zcf46))))))
def zcs401 : Sto := (149, va_up zcs400.2 148 (.inr (6, [.long 0, .long 0])))
def zcs402 : Sto := (149, va_up zcs401.2 148 (.inr (6, [.long 0, .long 0])))
def zcs403 : Sto := (149, va_up zcs402.2 148 (.inr (6, [.long 0, .long 1])))
set_option maxRecDepth 100000 in
theorem zct_X6_init_401 : fX6_init 148 zcs401 = some ((), zcs403) := by
  unfold fX6_init
  refine in_b (x := zcs402) rfl ?_
  refine in_b (x := zcs403) rfl ?_
  rfl
def zcf47 : Nat → Option Nat := va_up zcf46 21 (some 148)
def zcs404 : Sto := (149, va_up zcs403.2 124 (.inl (6, 64, .inr (.inr (.inr (.inr zcf47))))))
def zcs405 : Sto := (150, va_up zcs404.2 149 (.inr (6, [.long 0, .long 0])))
def zcs406 : Sto := (150, va_up zcs405.2 149 (.inr (6, [.long 0, .long 0])))
def zcs407 : Sto := (150, va_up zcs406.2 149 (.inr (6, [.long 0, .long 1])))
set_option maxRecDepth 100000 in
theorem zct_X6_init_405 : fX6_init 149 zcs405 = some ((), zcs407) := by
  unfold fX6_init
  refine in_b (x := zcs406) rfl ?_
  refine in_b (x := zcs407) rfl ?_
  rfl
def zcf48 : Nat → Option Nat := va_up zcf47 22 (some 149)
def zcs408 : Sto := (150, va_up zcs407.2 124 (.inl (6, 64, .inr (.inr (.inr (.inr zcf48))))))
def zcs409 : Sto := (151, va_up zcs408.2 150 (.inr (6, [.long 0, .long 0])))
def zcs410 : Sto := (151, va_up zcs409.2 150 (.inr (6, [.long 0, .long 0])))
def zcs411 : Sto := (151, va_up zcs410.2 150 (.inr (6, [.long 0, .long 1])))
set_option maxRecDepth 100000 in
theorem zct_X6_init_409 : fX6_init 150 zcs409 = some ((), zcs411) := by
  unfold fX6_init
  refine in_b (x := zcs410) rfl ?_
  refine in_b (x := zcs411) rfl ?_
  rfl
def zcf49 : Nat → Option Nat := va_up zcf48 23 (some 150)
def zcs412 : Sto := (151, va_up zcs411.2 124 (.inl (6, 64, .inr (.inr (.inr (.inr zcf49))))))
def zcs413 : Sto := (152, va_up zcs412.2 151 (.inr (6, [.long 0, .long 0])))
def zcs414 : Sto := (152, va_up zcs413.2 151 (.inr (6, [.long 0, .long 0])))
def zcs415 : Sto := (152, va_up zcs414.2 151 (.inr (6, [.long 0, .long 1])))
set_option maxRecDepth 100000 in
theorem zct_X6_init_413 : fX6_init 151 zcs413 = some ((), zcs415) := by
  unfold fX6_init
  refine in_b (x := zcs414) rfl ?_
  refine in_b (x := zcs415) rfl ?_
  rfl
def zcf50 : Nat → Option Nat := va_up zcf49 24 (some 151)
def zcs416 : Sto := (152, va_up zcs415.2 124 (.inl (6, 64, .inr (.inr (.inr (.inr zcf50))))))
def zcs417 : Sto := (153, va_up zcs416.2 152 (.inr (6, [.long 0, .long 0])))
def zcs418 : Sto := (153, va_up zcs417.2 152 (.inr (6, [.long 0, .long 0])))
def zcs419 : Sto := (153, va_up zcs418.2 152 (.inr (6, [.long 0, .long 1])))
set_option maxRecDepth 100000 in
theorem zct_X6_init_417 : fX6_init 152 zcs417 = some ((), zcs419) := by
  unfold fX6_init
  refine in_b (x := zcs418) rfl ?_
  refine in_b (x := zcs419) rfl ?_
  rfl
def zcf51 : Nat → Option Nat := va_up zcf50 25 (some 152)
def zcs420 : Sto := (153, va_up zcs419.2 124 (.inl (6, 64, .inr (.inr (.inr (.inr zcf51))))))
def zcs421 : Sto := (154, va_up zcs420.2 153 (.inr (6, [.long 0, .long 0])))
def zcs422 : Sto := (154, va_up zcs421.2 153 (.inr (6, [.long 0, .long 0])))
def zcs423 : Sto := (154, va_up zcs422.2 153 (.inr (6, [.long 0, .long 1])))
set_option maxRecDepth 100000 in
theorem zct_X6_init_421 : fX6_init 153 zcs421 = some ((), zcs423) := by
  unfold fX6_init
  refine in_b (x := zcs422) rfl ?_
  refine in_b (x := zcs423) rfl ?_
  rfl
def zcf52 : Nat → Option Nat := va_up zcf51 26 (some 153)
def zcs424 : Sto := (154, va_up zcs423.2 124 (.inl (6, 64, .inr (.inr (.inr (.inr zcf52))))))
def zcs425 : Sto := (155, va_up zcs424.2 154 (.inr (6, [.long 0, .long 0])))
def zcs426 : Sto := (155, va_up zcs425.2 154 (.inr (6, [.long 0, .long 0])))
def zcs427 : Sto := (155, va_up zcs426.2 154 (.inr (6, [.long 0, .long 1])))
set_option maxRecDepth 100000 in
theorem zct_X6_init_425 : fX6_init 154 zcs425 = some ((), zcs427) := by
  unfold fX6_init
  refine in_b (x := zcs426) rfl ?_
  refine in_b (x := zcs427) rfl ?_
  rfl
def zcf53 : Nat → Option Nat := va_up zcf52 27 (some 154)
def zcs428 : Sto := (155, va_up zcs427.2 124 (.inl (6, 64, .inr (.inr (.inr (.inr zcf53))))))
def zcs429 : Sto := (156, va_up zcs428.2 155 (.inr (6, [.long 0, .long 0])))
def zcs430 : Sto := (156, va_up zcs429.2 155 (.inr (6, [.long 0, .long 0])))
def zcs431 : Sto := (156, va_up zcs430.2 155 (.inr (6, [.long 0, .long 1])))
set_option maxRecDepth 100000 in
theorem zct_X6_init_429 : fX6_init 155 zcs429 = some ((), zcs431) := by
  unfold fX6_init
  refine in_b (x := zcs430) rfl ?_
  refine in_b (x := zcs431) rfl ?_
  rfl
def zcf54 : Nat → Option Nat := va_up zcf53 28 (some 155)
def zcs432 : Sto := (156, va_up zcs431.2 124 (.inl (6, 64, .inr (.inr (.inr (.inr zcf54))))))
def zcs433 : Sto := (157, va_up zcs432.2 156 (.inr (6, [.long 0, .long 0])))
def zcs434 : Sto := (157, va_up zcs433.2 156 (.inr (6, [.long 0, .long 0])))
def zcs435 : Sto := (157, va_up zcs434.2 156 (.inr (6, [.long 0, .long 1])))
set_option maxRecDepth 100000 in
theorem zct_X6_init_433 : fX6_init 156 zcs433 = some ((), zcs435) := by
  unfold fX6_init
  refine in_b (x := zcs434) rfl ?_
  refine in_b (x := zcs435) rfl ?_
  rfl
def zcf55 : Nat → Option Nat := va_up zcf54 29 (some 156)
def zcs436 : Sto := (157, va_up zcs435.2 124 (.inl (6, 64, .inr (.inr (.inr (.inr zcf55))))))
def zcs437 : Sto := (158, va_up zcs436.2 157 (.inr (6, [.long 0, .long 0])))
def zcs438 : Sto := (158, va_up zcs437.2 157 (.inr (6, [.long 0, .long 0])))
def zcs439 : Sto := (158, va_up zcs438.2 157 (.inr (6, [.long 0, .long 1])))
set_option maxRecDepth 100000 in
theorem zct_X6_init_437 : fX6_init 157 zcs437 = some ((), zcs439) := by
  unfold fX6_init
  refine in_b (x := zcs438) rfl ?_
  refine in_b (x := zcs439) rfl ?_
  rfl
def zcf56 : Nat → Option Nat := va_up zcf55 30 (some 157)
def zcs440 : Sto := (158, va_up zcs439.2 124 (.inl (6, 64, .inr (.inr (.inr (.inr zcf56))))))
def zcs441 : Sto := (159, va_up zcs440.2 158 (.inr (6, [.long 0, .long 0])))
def zcs442 : Sto := (159, va_up zcs441.2 158 (.inr (6, [.long 0, .long 0])))
def zcs443 : Sto := (159, va_up zcs442.2 158 (.inr (6, [.long 0, .long 1])))
set_option maxRecDepth 100000 in
theorem zct_X6_init_441 : fX6_init 158 zcs441 = some ((), zcs443) := by
  unfold fX6_init
  refine in_b (x := zcs442) rfl ?_
  refine in_b (x := zcs443) rfl ?_
  rfl
def zcf57 : Nat → Option Nat := va_up zcf56 31 (some 158)
def zcs444 : Sto := (159, va_up zcs443.2 124 (.inl (6, 64, .inr (.inr (.inr (.inr zcf57))))))
def zcs445 : Sto := (160, va_up zcs444.2 159 (.inr (6, [.long 0, .long 0])))
def zcs446 : Sto := (160, va_up zcs445.2 159 (.inr (6, [.long 0, .long 0])))
def zcs447 : Sto := (160, va_up zcs446.2 159 (.inr (6, [.long 0, .long 1])))
set_option maxRecDepth 100000 in
theorem zct_X6_init_445 : fX6_init 159 zcs445 = some ((), zcs447) := by
  unfold fX6_init
  refine in_b (x := zcs446) rfl ?_
  refine in_b (x := zcs447) rfl ?_
  rfl
def zcf58 : Nat → Option Nat := va_up zcf57 32 (some 159)
def zcs448 : Sto := (160, va_up zcs447.2 124 (.inl (6, 64, .inr (.inr (.inr (.inr zcf58))))))
def zcs449 : Sto := (161, va_up zcs448.2 160 (.inr (6, [.long 0, .long 0])))
def zcs450 : Sto := (161, va_up zcs449.2 160 (.inr (6, [.long 0, .long 0])))
def zcs451 : Sto := (161, va_up zcs450.2 160 (.inr (6, [.long 0, .long 1])))
set_option maxRecDepth 100000 in
theorem zct_X6_init_449 : fX6_init 160 zcs449 = some ((), zcs451) := by
  unfold fX6_init
  refine in_b (x := zcs450) rfl ?_
  refine in_b (x := zcs451) rfl ?_
  rfl
def zcf59 : Nat → Option Nat := va_up zcf58 33 (some 160)
def zcs452 : Sto := (161, va_up zcs451.2 124 (.inl (6, 64, .inr (.inr (.inr (.inr zcf59))))))
def zcs453 : Sto := (162, va_up zcs452.2 161 (.inr (6, [.long 0, .long 0])))
def zcs454 : Sto := (162, va_up zcs453.2 161 (.inr (6, [.long 0, .long 0])))
def zcs455 : Sto := (162, va_up zcs454.2 161 (.inr (6, [.long 0, .long 1])))
set_option maxRecDepth 100000 in
theorem zct_X6_init_453 : fX6_init 161 zcs453 = some ((), zcs455) := by
  unfold fX6_init
  refine in_b (x := zcs454) rfl ?_
  refine in_b (x := zcs455) rfl ?_
  rfl
def zcf60 : Nat → Option Nat := va_up zcf59 34 (some 161)
def zcs456 : Sto := (162, va_up zcs455.2 124 (.inl (6, 64, .inr (.inr (.inr (.inr zcf60))))))
def zcs457 : Sto := (163, va_up zcs456.2 162 (.inr (6, [.long 0, .long 0])))
def zcs458 : Sto := (163, va_up zcs457.2 162 (.inr (6, [.long 0, .long 0])))
def zcs459 : Sto := (163, va_up zcs458.2 162 (.inr (6, [.long 0, .long 1])))
set_option maxRecDepth 100000 in
theorem zct_X6_init_457 : fX6_init 162 zcs457 = some ((), zcs459) := by
  unfold fX6_init
  refine in_b (x := zcs458) rfl ?_
  refine in_b (x := zcs459) rfl ?_
  rfl
def zcf61 : Nat → Option Nat := va_up zcf60 35 (some 162)
def zcs460 : Sto := (163, va_up zcs459.2 124 (.inl (6, 64, .inr (.inr (.inr (.inr zcf61))))))
def zcs461 : Sto := (164, va_up zcs460.2 163 (.inr (6, [.long 0, .long 0])))
def zcs462 : Sto := (164, va_up zcs461.2 163 (.inr (6, [.long 0, .long 0])))
def zcs463 : Sto := (164, va_up zcs462.2 163 (.inr (6, [.long 0, .long 1])))
set_option maxRecDepth 100000 in
theorem zct_X6_init_461 : fX6_init 163 zcs461 = some ((), zcs463) := by
  unfold fX6_init
  refine in_b (x := zcs462) rfl ?_
  refine in_b (x := zcs463) rfl ?_
  rfl
def zcf62 : Nat → Option Nat := va_up zcf61 36 (some 163)
def zcs464 : Sto := (164, va_up zcs463.2 124 (.inl (6, 64, .inr (.inr (.inr (.inr zcf62))))))
def zcs465 : Sto := (165, va_up zcs464.2 164 (.inr (6, [.long 0, .long 0])))
def zcs466 : Sto := (165, va_up zcs465.2 164 (.inr (6, [.long 0, .long 0])))
def zcs467 : Sto := (165, va_up zcs466.2 164 (.inr (6, [.long 0, .long 1])))
set_option maxRecDepth 100000 in
theorem zct_X6_init_465 : fX6_init 164 zcs465 = some ((), zcs467) := by
  unfold fX6_init
  refine in_b (x := zcs466) rfl ?_
  refine in_b (x := zcs467) rfl ?_
  rfl
def zcf63 : Nat → Option Nat := va_up zcf62 37 (some 164)
def zcs468 : Sto := (165, va_up zcs467.2 124 (.inl (6, 64, .inr (.inr (.inr (.inr zcf63))))))
def zcs469 : Sto := (166, va_up zcs468.2 165 (.inr (6, [.long 0, .long 0])))
def zcs470 : Sto := (166, va_up zcs469.2 165 (.inr (6, [.long 0, .long 0])))
def zcs471 : Sto := (166, va_up zcs470.2 165 (.inr (6, [.long 0, .long 1])))
set_option maxRecDepth 100000 in
theorem zct_X6_init_469 : fX6_init 165 zcs469 = some ((), zcs471) := by
  unfold fX6_init
  refine in_b (x := zcs470) rfl ?_
  refine in_b (x := zcs471) rfl ?_
  rfl
def zcf64 : Nat → Option Nat := va_up zcf63 38 (some 165)
def zcs472 : Sto := (166, va_up zcs471.2 124 (.inl (6, 64, .inr (.inr (.inr (.inr zcf64))))))
def zcs473 : Sto := (167, va_up zcs472.2 166 (.inr (6, [.long 0, .long 0])))
def zcs474 : Sto := (167, va_up zcs473.2 166 (.inr (6, [.long 0, .long 0])))
def zcs475 : Sto := (167, va_up zcs474.2 166 (.inr (6, [.long 0, .long 1])))
set_option maxRecDepth 100000 in
theorem zct_X6_init_473 : fX6_init 166 zcs473 = some ((), zcs475) := by
  unfold fX6_init
  refine in_b (x := zcs474) rfl ?_
  refine in_b (x := zcs475) rfl ?_
  rfl
def zcf65 : Nat → Option Nat := va_up zcf64 39 (some 166)
def zcs476 : Sto := (167, va_up zcs475.2 124 (.inl (6, 64, .inr (.inr (.inr (.inr zcf65))))))
def zcs477 : Sto := (168, va_up zcs476.2 167 (.inr (6, [.long 0, .long 0])))
def zcs478 : Sto := (168, va_up zcs477.2 167 (.inr (6, [.long 0, .long 0])))
def zcs479 : Sto := (168, va_up zcs478.2 167 (.inr (6, [.long 0, .long 1])))
set_option maxRecDepth 100000 in
theorem zct_X6_init_477 : fX6_init 167 zcs477 = some ((), zcs479) := by
  unfold fX6_init
  refine in_b (x := zcs478) rfl ?_
  refine in_b (x := zcs479) rfl ?_
  rfl
def zcf66 : Nat → Option Nat := va_up zcf65 40 (some 167)
def zcs480 : Sto := (168, va_up zcs479.2 124 (.inl (6, 64, .inr (.inr (.inr (.inr zcf66))))))
def zcs481 : Sto := (169, va_up zcs480.2 168 (.inr (6, [.long 0, .long 0])))
def zcs482 : Sto := (169, va_up zcs481.2 168 (.inr (6, [.long 0, .long 0])))
def zcs483 : Sto := (169, va_up zcs482.2 168 (.inr (6, [.long 0, .long 1])))
set_option maxRecDepth 100000 in
theorem zct_X6_init_481 : fX6_init 168 zcs481 = some ((), zcs483) := by
  unfold fX6_init
  refine in_b (x := zcs482) rfl ?_
  refine in_b (x := zcs483) rfl ?_
  rfl
def zcf67 : Nat → Option Nat := va_up zcf66 41 (some 168)
def zcs484 : Sto := (169, va_up zcs483.2 124 (.inl (6, 64, .inr (.inr (.inr (.inr zcf67))))))
def zcs485 : Sto := (170, va_up zcs484.2 169 (.inr (6, [.long 0, .long 0])))
def zcs486 : Sto := (170, va_up zcs485.2 169 (.inr (6, [.long 0, .long 0])))
def zcs487 : Sto := (170, va_up zcs486.2 169 (.inr (6, [.long 0, .long 1])))
set_option maxRecDepth 100000 in
theorem zct_X6_init_485 : fX6_init 169 zcs485 = some ((), zcs487) := by
  unfold fX6_init
  refine in_b (x := zcs486) rfl ?_
  refine in_b (x := zcs487) rfl ?_
  rfl
def zcf68 : Nat → Option Nat := va_up zcf67 42 (some 169)
def zcs488 : Sto := (170, va_up zcs487.2 124 (.inl (6, 64, .inr (.inr (.inr (.inr zcf68))))))
def zcs489 : Sto := (171, va_up zcs488.2 170 (.inr (6, [.long 0, .long 0])))
def zcs490 : Sto := (171, va_up zcs489.2 170 (.inr (6, [.long 0, .long 0])))
def zcs491 : Sto := (171, va_up zcs490.2 170 (.inr (6, [.long 0, .long 1])))
set_option maxRecDepth 100000 in
theorem zct_X6_init_489 : fX6_init 170 zcs489 = some ((), zcs491) := by
  unfold fX6_init
  refine in_b (x := zcs490) rfl ?_
  refine in_b (x := zcs491) rfl ?_
  rfl
def zcf69 : Nat → Option Nat := va_up zcf68 43 (some 170)
def zcs492 : Sto := (171, va_up zcs491.2 124 (.inl (6, 64, .inr (.inr (.inr (.inr zcf69))))))
def zcs493 : Sto := (172, va_up zcs492.2 171 (.inr (6, [.long 0, .long 0])))
def zcs494 : Sto := (172, va_up zcs493.2 171 (.inr (6, [.long 0, .long 0])))
def zcs495 : Sto := (172, va_up zcs494.2 171 (.inr (6, [.long 0, .long 1])))
set_option maxRecDepth 100000 in
theorem zct_X6_init_493 : fX6_init 171 zcs493 = some ((), zcs495) := by
  unfold fX6_init
  refine in_b (x := zcs494) rfl ?_
  refine in_b (x := zcs495) rfl ?_
  rfl
def zcf70 : Nat → Option Nat := va_up zcf69 44 (some 171)
def zcs496 : Sto := (172, va_up zcs495.2 124 (.inl (6, 64, .inr (.inr (.inr (.inr zcf70))))))
def zcs497 : Sto := (173, va_up zcs496.2 172 (.inr (6, [.long 0, .long 0])))
def zcs498 : Sto := (173, va_up zcs497.2 172 (.inr (6, [.long 0, .long 0])))
def zcs499 : Sto := (173, va_up zcs498.2 172 (.inr (6, [.long 0, .long 1])))
set_option maxRecDepth 100000 in
theorem zct_X6_init_497 : fX6_init 172 zcs497 = some ((), zcs499) := by
  unfold fX6_init
  refine in_b (x := zcs498) rfl ?_
  refine in_b (x := zcs499) rfl ?_
  rfl
def zcf71 : Nat → Option Nat := va_up zcf70 45 (some 172)
def zcs500 : Sto := (173, va_up zcs499.2 124 (.inl (6, 64, .inr (.inr (.inr (.inr zcf71))))))
def zcs501 : Sto := (174, va_up zcs500.2 173 (.inr (6, [.long 0, .long 0])))
def zcs502 : Sto := (174, va_up zcs501.2 173 (.inr (6, [.long 0, .long 0])))
def zcs503 : Sto := (174, va_up zcs502.2 173 (.inr (6, [.long 0, .long 1])))
set_option maxRecDepth 100000 in
theorem zct_X6_init_501 : fX6_init 173 zcs501 = some ((), zcs503) := by
  unfold fX6_init
  refine in_b (x := zcs502) rfl ?_
  refine in_b (x := zcs503) rfl ?_
  rfl
def zcf72 : Nat → Option Nat := va_up zcf71 46 (some 173)
def zcs504 : Sto := (174, va_up zcs503.2 124 (.inl (6, 64, .inr (.inr (.inr (.inr zcf72))))))
def zcs505 : Sto := (175, va_up zcs504.2 174 (.inr (6, [.long 0, .long 0])))
def zcs506 : Sto := (175, va_up zcs505.2 174 (.inr (6, [.long 0, .long 0])))
def zcs507 : Sto := (175, va_up zcs506.2 174 (.inr (6, [.long 0, .long 1])))
set_option maxRecDepth 100000 in
theorem zct_X6_init_505 : fX6_init 174 zcs505 = some ((), zcs507) := by
  unfold fX6_init
  refine in_b (x := zcs506) rfl ?_
  refine in_b (x := zcs507) rfl ?_
  rfl
def zcf73 : Nat → Option Nat := va_up zcf72 47 (some 174)
def zcs508 : Sto := (175, va_up zcs507.2 124 (.inl (6, 64, .inr (.inr (.inr (.inr zcf73))))))
def zcs509 : Sto := (176, va_up zcs508.2 175 (.inr (6, [.long 0, .long 0])))
def zcs510 : Sto := (176, va_up zcs509.2 175 (.inr (6, [.long 0, .long 0])))
def zcs511 : Sto := (176, va_up zcs510.2 175 (.inr (6, [.long 0, .long 1])))
set_option maxRecDepth 100000 in
theorem zct_X6_init_509 : fX6_init 175 zcs509 = some ((), zcs511) := by
  unfold fX6_init
  refine in_b (x := zcs510) rfl ?_
  refine in_b (x := zcs511) rfl ?_
  rfl
def zcf74 : Nat → Option Nat := va_up zcf73 48 (some 175)
def zcs512 : Sto := (176, va_up zcs511.2 124 (.inl (6, 64, .inr (.inr (.inr (.inr zcf74))))))
def zcs513 : Sto := (177, va_up zcs512.2 176 (.inr (6, [.long 0, .long 0])))
def zcs514 : Sto := (177, va_up zcs513.2 176 (.inr (6, [.long 0, .long 0])))
def zcs515 : Sto := (177, va_up zcs514.2 176 (.inr (6, [.long 0, .long 1])))
set_option maxRecDepth 100000 in
theorem zct_X6_init_513 : fX6_init 176 zcs513 = some ((), zcs515) := by
  unfold fX6_init
  refine in_b (x := zcs514) rfl ?_
  refine in_b (x := zcs515) rfl ?_
  rfl
def zcf75 : Nat → Option Nat := va_up zcf74 49 (some 176)
def zcs516 : Sto := (177, va_up zcs515.2 124 (.inl (6, 64, .inr (.inr (.inr (.inr zcf75))))))
def zcs517 : Sto := (178, va_up zcs516.2 177 (.inr (6, [.long 0, .long 0])))
def zcs518 : Sto := (178, va_up zcs517.2 177 (.inr (6, [.long 0, .long 0])))
def zcs519 : Sto := (178, va_up zcs518.2 177 (.inr (6, [.long 0, .long 1])))
set_option maxRecDepth 100000 in
theorem zct_X6_init_517 : fX6_init 177 zcs517 = some ((), zcs519) := by
  unfold fX6_init
  refine in_b (x := zcs518) rfl ?_
  refine in_b (x := zcs519) rfl ?_
  rfl
def zcf76 : Nat → Option Nat := va_up zcf75 50 (some 177)
def zcs520 : Sto := (178, va_up zcs519.2 124 (.inl (6, 64, .inr (.inr (.inr (.inr zcf76))))))
def zcs521 : Sto := (179, va_up zcs520.2 178 (.inr (6, [.long 0, .long 0])))
def zcs522 : Sto := (179, va_up zcs521.2 178 (.inr (6, [.long 0, .long 0])))
def zcs523 : Sto := (179, va_up zcs522.2 178 (.inr (6, [.long 0, .long 1])))
set_option maxRecDepth 100000 in
theorem zct_X6_init_521 : fX6_init 178 zcs521 = some ((), zcs523) := by
  unfold fX6_init
  refine in_b (x := zcs522) rfl ?_
  refine in_b (x := zcs523) rfl ?_
  rfl
def zcf77 : Nat → Option Nat := va_up zcf76 51 (some 178)
def zcs524 : Sto := (179, va_up zcs523.2 124 (.inl (6, 64, .inr (.inr (.inr (.inr zcf77))))))
def zcs525 : Sto := (180, va_up zcs524.2 179 (.inr (6, [.long 0, .long 0])))
def zcs526 : Sto := (180, va_up zcs525.2 179 (.inr (6, [.long 0, .long 0])))
def zcs527 : Sto := (180, va_up zcs526.2 179 (.inr (6, [.long 0, .long 1])))
set_option maxRecDepth 100000 in
theorem zct_X6_init_525 : fX6_init 179 zcs525 = some ((), zcs527) := by
  unfold fX6_init
  refine in_b (x := zcs526) rfl ?_
  refine in_b (x := zcs527) rfl ?_
  rfl
def zcf78 : Nat → Option Nat := va_up zcf77 52 (some 179)
def zcs528 : Sto := (180, va_up zcs527.2 124 (.inl (6, 64, .inr (.inr (.inr (.inr zcf78))))))
def zcs529 : Sto := (181, va_up zcs528.2 180 (.inr (6, [.long 0, .long 0])))
def zcs530 : Sto := (181, va_up zcs529.2 180 (.inr (6, [.long 0, .long 0])))
def zcs531 : Sto := (181, va_up zcs530.2 180 (.inr (6, [.long 0, .long 1])))
set_option maxRecDepth 100000 in
theorem zct_X6_init_529 : fX6_init 180 zcs529 = some ((), zcs531) := by
  unfold fX6_init
  refine in_b (x := zcs530) rfl ?_
  refine in_b (x := zcs531) rfl ?_
  rfl
def zcf79 : Nat → Option Nat := va_up zcf78 53 (some 180)
def zcs532 : Sto := (181, va_up zcs531.2 124 (.inl (6, 64, .inr (.inr (.inr (.inr zcf79))))))
def zcs533 : Sto := (182, va_up zcs532.2 181 (.inr (6, [.long 0, .long 0])))
def zcs534 : Sto := (182, va_up zcs533.2 181 (.inr (6, [.long 0, .long 0])))
def zcs535 : Sto := (182, va_up zcs534.2 181 (.inr (6, [.long 0, .long 1])))
set_option maxRecDepth 100000 in
theorem zct_X6_init_533 : fX6_init 181 zcs533 = some ((), zcs535) := by
  unfold fX6_init
  refine in_b (x := zcs534) rfl ?_
  refine in_b (x := zcs535) rfl ?_
  rfl
def zcf80 : Nat → Option Nat := va_up zcf79 54 (some 181)
def zcs536 : Sto := (182, va_up zcs535.2 124 (.inl (6, 64, .inr (.inr (.inr (.inr zcf80))))))
def zcs537 : Sto := (183, va_up zcs536.2 182 (.inr (6, [.long 0, .long 0])))
def zcs538 : Sto := (183, va_up zcs537.2 182 (.inr (6, [.long 0, .long 0])))
def zcs539 : Sto := (183, va_up zcs538.2 182 (.inr (6, [.long 0, .long 1])))
set_option maxRecDepth 100000 in
theorem zct_X6_init_537 : fX6_init 182 zcs537 = some ((), zcs539) := by
  unfold fX6_init
  refine in_b (x := zcs538) rfl ?_
  refine in_b (x := zcs539) rfl ?_
  rfl
def zcf81 : Nat → Option Nat := va_up zcf80 55 (some 182)
def zcs540 : Sto := (183, va_up zcs539.2 124 (.inl (6, 64, .inr (.inr (.inr (.inr zcf81))))))
def zcs541 : Sto := (184, va_up zcs540.2 183 (.inr (6, [.long 0, .long 0])))
def zcs542 : Sto := (184, va_up zcs541.2 183 (.inr (6, [.long 0, .long 0])))
def zcs543 : Sto := (184, va_up zcs542.2 183 (.inr (6, [.long 0, .long 1])))
set_option maxRecDepth 100000 in
theorem zct_X6_init_541 : fX6_init 183 zcs541 = some ((), zcs543) := by
  unfold fX6_init
  refine in_b (x := zcs542) rfl ?_
  refine in_b (x := zcs543) rfl ?_
  rfl
def zcf82 : Nat → Option Nat := va_up zcf81 56 (some 183)
def zcs544 : Sto := (184, va_up zcs543.2 124 (.inl (6, 64, .inr (.inr (.inr (.inr zcf82))))))
def zcs545 : Sto := (185, va_up zcs544.2 184 (.inr (6, [.long 0, .long 0])))
def zcs546 : Sto := (185, va_up zcs545.2 184 (.inr (6, [.long 0, .long 0])))
def zcs547 : Sto := (185, va_up zcs546.2 184 (.inr (6, [.long 0, .long 1])))
set_option maxRecDepth 100000 in
theorem zct_X6_init_545 : fX6_init 184 zcs545 = some ((), zcs547) := by
  unfold fX6_init
  refine in_b (x := zcs546) rfl ?_
  refine in_b (x := zcs547) rfl ?_
  rfl
def zcf83 : Nat → Option Nat := va_up zcf82 57 (some 184)
def zcs548 : Sto := (185, va_up zcs547.2 124 (.inl (6, 64, .inr (.inr (.inr (.inr zcf83))))))
def zcs549 : Sto := (186, va_up zcs548.2 185 (.inr (6, [.long 0, .long 0])))
def zcs550 : Sto := (186, va_up zcs549.2 185 (.inr (6, [.long 0, .long 0])))
def zcs551 : Sto := (186, va_up zcs550.2 185 (.inr (6, [.long 0, .long 1])))
set_option maxRecDepth 100000 in
theorem zct_X6_init_549 : fX6_init 185 zcs549 = some ((), zcs551) := by
  unfold fX6_init
  refine in_b (x := zcs550) rfl ?_
  refine in_b (x := zcs551) rfl ?_
  rfl
def zcf84 : Nat → Option Nat := va_up zcf83 58 (some 185)
def zcs552 : Sto := (186, va_up zcs551.2 124 (.inl (6, 64, .inr (.inr (.inr (.inr zcf84))))))
def zcs553 : Sto := (187, va_up zcs552.2 186 (.inr (6, [.long 0, .long 0])))
def zcs554 : Sto := (187, va_up zcs553.2 186 (.inr (6, [.long 0, .long 0])))
def zcs555 : Sto := (187, va_up zcs554.2 186 (.inr (6, [.long 0, .long 1])))
set_option maxRecDepth 100000 in
theorem zct_X6_init_553 : fX6_init 186 zcs553 = some ((), zcs555) := by
  unfold fX6_init
  refine in_b (x := zcs554) rfl ?_
  refine in_b (x := zcs555) rfl ?_
  rfl
def zcf85 : Nat → Option Nat := va_up zcf84 59 (some 186)
def zcs556 : Sto := (187, va_up zcs555.2 124 (.inl (6, 64, .inr (.inr (.inr (.inr zcf85))))))
def zcs557 : Sto := (188, va_up zcs556.2 187 (.inr (6, [.long 0, .long 0])))
def zcs558 : Sto := (188, va_up zcs557.2 187 (.inr (6, [.long 0, .long 0])))
def zcs559 : Sto := (188, va_up zcs558.2 187 (.inr (6, [.long 0, .long 1])))
set_option maxRecDepth 100000 in
theorem zct_X6_init_557 : fX6_init 187 zcs557 = some ((), zcs559) := by
  unfold fX6_init
  refine in_b (x := zcs558) rfl ?_
  refine in_b (x := zcs559) rfl ?_
  rfl
def zcf86 : Nat → Option Nat := va_up zcf85 60 (some 187)
def zcs560 : Sto := (188, va_up zcs559.2 124 (.inl (6, 64, .inr (.inr (.inr (.inr zcf86))))))
def zcs561 : Sto := (189, va_up zcs560.2 188 (.inr (6, [.long 0, .long 0])))
def zcs562 : Sto := (189, va_up zcs561.2 188 (.inr (6, [.long 0, .long 0])))
def zcs563 : Sto := (189, va_up zcs562.2 188 (.inr (6, [.long 0, .long 1])))
set_option maxRecDepth 100000 in
theorem zct_X6_init_561 : fX6_init 188 zcs561 = some ((), zcs563) := by
  unfold fX6_init
  refine in_b (x := zcs562) rfl ?_
  refine in_b (x := zcs563) rfl ?_
  rfl
def zcf87 : Nat → Option Nat := va_up zcf86 61 (some 188)
def zcs564 : Sto := (189, va_up zcs563.2 124 (.inl (6, 64, .inr (.inr (.inr (.inr zcf87))))))
def zcs565 : Sto := (190, va_up zcs564.2 189 (.inr (6, [.long 0, .long 0])))
def zcs566 : Sto := (190, va_up zcs565.2 189 (.inr (6, [.long 0, .long 0])))
def zcs567 : Sto := (190, va_up zcs566.2 189 (.inr (6, [.long 0, .long 1])))
set_option maxRecDepth 100000 in
theorem zct_X6_init_565 : fX6_init 189 zcs565 = some ((), zcs567) := by
  unfold fX6_init
  refine in_b (x := zcs566) rfl ?_
  refine in_b (x := zcs567) rfl ?_
  rfl
def zcf88 : Nat → Option Nat := va_up zcf87 62 (some 189)
def zcs568 : Sto := (190, va_up zcs567.2 124 (.inl (6, 64, .inr (.inr (.inr (.inr zcf88))))))
def zcs569 : Sto := (191, va_up zcs568.2 190 (.inr (6, [.long 0, .long 0])))
def zcs570 : Sto := (191, va_up zcs569.2 190 (.inr (6, [.long 0, .long 0])))
def zcs571 : Sto := (191, va_up zcs570.2 190 (.inr (6, [.long 0, .long 1])))
set_option maxRecDepth 100000 in
theorem zct_X6_init_569 : fX6_init 190 zcs569 = some ((), zcs571) := by
  unfold fX6_init
  refine in_b (x := zcs570) rfl ?_
  refine in_b (x := zcs571) rfl ?_
  rfl
def zcf89 : Nat → Option Nat := va_up zcf88 63 (some 190)
def zcs572 : Sto := (191, va_up zcs571.2 124 (.inl (6, 64, .inr (.inr (.inr (.inr zcf89))))))
set_option maxRecDepth 100000 in
theorem zct_X2_init_308 : fX2_init 123 zcs308 = some ((), zcs572) := by
  unfold fX2_init
  refine in_n (S' := zcs309) (q := 124) rfl rfl ?_
  refine in_b (x := zcs310) rfl ?_
  refine in_n (S' := zcs311) (q := 125) rfl rfl ?_
  refine in_b (x := zcs312) rfl ?_
  refine in_n (S' := zcs313) (q := 126) rfl rfl ?_
  refine in_c (x := ()) (s := zcs315) zct_X6_init_313 ?_
  refine in_b (x := zcs316) rfl ?_
  refine in_b (x := 124) rfl ?_
  refine in_n (S' := zcs317) (q := 127) rfl rfl ?_
  refine in_c (x := ()) (s := zcs319) zct_X6_init_317 ?_
  refine in_b (x := zcs320) (in_sR (j := 0) (n := 64) (f := (fun _ => none)) rfl ⟨_, rfl⟩ (by decide) (by decide)) ?_
  refine in_b (x := 124) rfl ?_
  refine in_n (S' := zcs321) (q := 128) rfl rfl ?_
  refine in_c (x := ()) (s := zcs323) zct_X6_init_321 ?_
  refine in_b (x := zcs324) (in_sR (j := 1) (n := 64) (f := zcf26) rfl ⟨_, rfl⟩ (by decide) (by decide)) ?_
  refine in_b (x := 124) rfl ?_
  refine in_n (S' := zcs325) (q := 129) rfl rfl ?_
  refine in_c (x := ()) (s := zcs327) zct_X6_init_325 ?_
  refine in_b (x := zcs328) (in_sR (j := 2) (n := 64) (f := zcf27) rfl ⟨_, rfl⟩ (by decide) (by decide)) ?_
  refine in_b (x := 124) rfl ?_
  refine in_n (S' := zcs329) (q := 130) rfl rfl ?_
  refine in_c (x := ()) (s := zcs331) zct_X6_init_329 ?_
  refine in_b (x := zcs332) (in_sR (j := 3) (n := 64) (f := zcf28) rfl ⟨_, rfl⟩ (by decide) (by decide)) ?_
  refine in_b (x := 124) rfl ?_
  refine in_n (S' := zcs333) (q := 131) rfl rfl ?_
  refine in_c (x := ()) (s := zcs335) zct_X6_init_333 ?_
  refine in_b (x := zcs336) (in_sR (j := 4) (n := 64) (f := zcf29) rfl ⟨_, rfl⟩ (by decide) (by decide)) ?_
  refine in_b (x := 124) rfl ?_
  refine in_n (S' := zcs337) (q := 132) rfl rfl ?_
  refine in_c (x := ()) (s := zcs339) zct_X6_init_337 ?_
  refine in_b (x := zcs340) (in_sR (j := 5) (n := 64) (f := zcf30) rfl ⟨_, rfl⟩ (by decide) (by decide)) ?_
  refine in_b (x := 124) rfl ?_
  refine in_n (S' := zcs341) (q := 133) rfl rfl ?_
  refine in_c (x := ()) (s := zcs343) zct_X6_init_341 ?_
  refine in_b (x := zcs344) (in_sR (j := 6) (n := 64) (f := zcf31) rfl ⟨_, rfl⟩ (by decide) (by decide)) ?_
  refine in_b (x := 124) rfl ?_
  refine in_n (S' := zcs345) (q := 134) rfl rfl ?_
  refine in_c (x := ()) (s := zcs347) zct_X6_init_345 ?_
  refine in_b (x := zcs348) (in_sR (j := 7) (n := 64) (f := zcf32) rfl ⟨_, rfl⟩ (by decide) (by decide)) ?_
  refine in_b (x := 124) rfl ?_
  refine in_n (S' := zcs349) (q := 135) rfl rfl ?_
  refine in_c (x := ()) (s := zcs351) zct_X6_init_349 ?_
  refine in_b (x := zcs352) (in_sR (j := 8) (n := 64) (f := zcf33) rfl ⟨_, rfl⟩ (by decide) (by decide)) ?_
  refine in_b (x := 124) rfl ?_
  refine in_n (S' := zcs353) (q := 136) rfl rfl ?_
  refine in_c (x := ()) (s := zcs355) zct_X6_init_353 ?_
  refine in_b (x := zcs356) (in_sR (j := 9) (n := 64) (f := zcf34) rfl ⟨_, rfl⟩ (by decide) (by decide)) ?_
  refine in_b (x := 124) rfl ?_
  refine in_n (S' := zcs357) (q := 137) rfl rfl ?_
  refine in_c (x := ()) (s := zcs359) zct_X6_init_357 ?_
  refine in_b (x := zcs360) (in_sR (j := 10) (n := 64) (f := zcf35) rfl ⟨_, rfl⟩ (by decide) (by decide)) ?_
  refine in_b (x := 124) rfl ?_
  refine in_n (S' := zcs361) (q := 138) rfl rfl ?_
  refine in_c (x := ()) (s := zcs363) zct_X6_init_361 ?_
  refine in_b (x := zcs364) (in_sR (j := 11) (n := 64) (f := zcf36) rfl ⟨_, rfl⟩ (by decide) (by decide)) ?_
  refine in_b (x := 124) rfl ?_
  refine in_n (S' := zcs365) (q := 139) rfl rfl ?_
  refine in_c (x := ()) (s := zcs367) zct_X6_init_365 ?_
  refine in_b (x := zcs368) (in_sR (j := 12) (n := 64) (f := zcf37) rfl ⟨_, rfl⟩ (by decide) (by decide)) ?_
  refine in_b (x := 124) rfl ?_
  refine in_n (S' := zcs369) (q := 140) rfl rfl ?_
  refine in_c (x := ()) (s := zcs371) zct_X6_init_369 ?_
  refine in_b (x := zcs372) (in_sR (j := 13) (n := 64) (f := zcf38) rfl ⟨_, rfl⟩ (by decide) (by decide)) ?_
  refine in_b (x := 124) rfl ?_
  refine in_n (S' := zcs373) (q := 141) rfl rfl ?_
  refine in_c (x := ()) (s := zcs375) zct_X6_init_373 ?_
  refine in_b (x := zcs376) (in_sR (j := 14) (n := 64) (f := zcf39) rfl ⟨_, rfl⟩ (by decide) (by decide)) ?_
  refine in_b (x := 124) rfl ?_
  refine in_n (S' := zcs377) (q := 142) rfl rfl ?_
  refine in_c (x := ()) (s := zcs379) zct_X6_init_377 ?_
  refine in_b (x := zcs380) (in_sR (j := 15) (n := 64) (f := zcf40) rfl ⟨_, rfl⟩ (by decide) (by decide)) ?_
  refine in_b (x := 124) rfl ?_
  refine in_n (S' := zcs381) (q := 143) rfl rfl ?_
  refine in_c (x := ()) (s := zcs383) zct_X6_init_381 ?_
  refine in_b (x := zcs384) (in_sR (j := 16) (n := 64) (f := zcf41) rfl ⟨_, rfl⟩ (by decide) (by decide)) ?_
  refine in_b (x := 124) rfl ?_
  refine in_n (S' := zcs385) (q := 144) rfl rfl ?_
  refine in_c (x := ()) (s := zcs387) zct_X6_init_385 ?_
  refine in_b (x := zcs388) (in_sR (j := 17) (n := 64) (f := zcf42) rfl ⟨_, rfl⟩ (by decide) (by decide)) ?_
  refine in_b (x := 124) rfl ?_
  refine in_n (S' := zcs389) (q := 145) rfl rfl ?_
  refine in_c (x := ()) (s := zcs391) zct_X6_init_389 ?_
  refine in_b (x := zcs392) (in_sR (j := 18) (n := 64) (f := zcf43) rfl ⟨_, rfl⟩ (by decide) (by decide)) ?_
  refine in_b (x := 124) rfl ?_
  refine in_n (S' := zcs393) (q := 146) rfl rfl ?_
  refine in_c (x := ()) (s := zcs395) zct_X6_init_393 ?_
  refine in_b (x := zcs396) (in_sR (j := 19) (n := 64) (f := zcf44) rfl ⟨_, rfl⟩ (by decide) (by decide)) ?_
  refine in_b (x := 124) rfl ?_
  refine in_n (S' := zcs397) (q := 147) rfl rfl ?_
  refine in_c (x := ()) (s := zcs399) zct_X6_init_397 ?_
  refine in_b (x := zcs400) (in_sR (j := 20) (n := 64) (f := zcf45) rfl ⟨_, rfl⟩ (by decide) (by decide)) ?_
  refine in_b (x := 124) rfl ?_
  refine in_n (S' := zcs401) (q := 148) rfl rfl ?_
  refine in_c (x := ()) (s := zcs403) zct_X6_init_401 ?_
  refine in_b (x := zcs404) (in_sR (j := 21) (n := 64) (f := zcf46) rfl ⟨_, rfl⟩ (by decide) (by decide)) ?_
  refine in_b (x := 124) rfl ?_
  refine in_n (S' := zcs405) (q := 149) rfl rfl ?_
  refine in_c (x := ()) (s := zcs407) zct_X6_init_405 ?_
  refine in_b (x := zcs408) (in_sR (j := 22) (n := 64) (f := zcf47) rfl ⟨_, rfl⟩ (by decide) (by decide)) ?_
  refine in_b (x := 124) rfl ?_
  refine in_n (S' := zcs409) (q := 150) rfl rfl ?_
  refine in_c (x := ()) (s := zcs411) zct_X6_init_409 ?_
  refine in_b (x := zcs412) (in_sR (j := 23) (n := 64) (f := zcf48) rfl ⟨_, rfl⟩ (by decide) (by decide)) ?_
  refine in_b (x := 124) rfl ?_
  refine in_n (S' := zcs413) (q := 151) rfl rfl ?_
  refine in_c (x := ()) (s := zcs415) zct_X6_init_413 ?_
  refine in_b (x := zcs416) (in_sR (j := 24) (n := 64) (f := zcf49) rfl ⟨_, rfl⟩ (by decide) (by decide)) ?_
  refine in_b (x := 124) rfl ?_
  refine in_n (S' := zcs417) (q := 152) rfl rfl ?_
  refine in_c (x := ()) (s := zcs419) zct_X6_init_417 ?_
  refine in_b (x := zcs420) (in_sR (j := 25) (n := 64) (f := zcf50) rfl ⟨_, rfl⟩ (by decide) (by decide)) ?_
  refine in_b (x := 124) rfl ?_
  refine in_n (S' := zcs421) (q := 153) rfl rfl ?_
  refine in_c (x := ()) (s := zcs423) zct_X6_init_421 ?_
  refine in_b (x := zcs424) (in_sR (j := 26) (n := 64) (f := zcf51) rfl ⟨_, rfl⟩ (by decide) (by decide)) ?_
  refine in_b (x := 124) rfl ?_
  refine in_n (S' := zcs425) (q := 154) rfl rfl ?_
  refine in_c (x := ()) (s := zcs427) zct_X6_init_425 ?_
  refine in_b (x := zcs428) (in_sR (j := 27) (n := 64) (f := zcf52) rfl ⟨_, rfl⟩ (by decide) (by decide)) ?_
  refine in_b (x := 124) rfl ?_
  refine in_n (S' := zcs429) (q := 155) rfl rfl ?_
  refine in_c (x := ()) (s := zcs431) zct_X6_init_429 ?_
  refine in_b (x := zcs432) (in_sR (j := 28) (n := 64) (f := zcf53) rfl ⟨_, rfl⟩ (by decide) (by decide)) ?_
  refine in_b (x := 124) rfl ?_
  refine in_n (S' := zcs433) (q := 156) rfl rfl ?_
  refine in_c (x := ()) (s := zcs435) zct_X6_init_433 ?_
  refine in_b (x := zcs436) (in_sR (j := 29) (n := 64) (f := zcf54) rfl ⟨_, rfl⟩ (by decide) (by decide)) ?_
  refine in_b (x := 124) rfl ?_
  refine in_n (S' := zcs437) (q := 157) rfl rfl ?_
  refine in_c (x := ()) (s := zcs439) zct_X6_init_437 ?_
  refine in_b (x := zcs440) (in_sR (j := 30) (n := 64) (f := zcf55) rfl ⟨_, rfl⟩ (by decide) (by decide)) ?_
  refine in_b (x := 124) rfl ?_
  refine in_n (S' := zcs441) (q := 158) rfl rfl ?_
  refine in_c (x := ()) (s := zcs443) zct_X6_init_441 ?_
  refine in_b (x := zcs444) (in_sR (j := 31) (n := 64) (f := zcf56) rfl ⟨_, rfl⟩ (by decide) (by decide)) ?_
  refine in_b (x := 124) rfl ?_
  refine in_n (S' := zcs445) (q := 159) rfl rfl ?_
  refine in_c (x := ()) (s := zcs447) zct_X6_init_445 ?_
  refine in_b (x := zcs448) (in_sR (j := 32) (n := 64) (f := zcf57) rfl ⟨_, rfl⟩ (by decide) (by decide)) ?_
  refine in_b (x := 124) rfl ?_
  refine in_n (S' := zcs449) (q := 160) rfl rfl ?_
  refine in_c (x := ()) (s := zcs451) zct_X6_init_449 ?_
  refine in_b (x := zcs452) (in_sR (j := 33) (n := 64) (f := zcf58) rfl ⟨_, rfl⟩ (by decide) (by decide)) ?_
  refine in_b (x := 124) rfl ?_
  refine in_n (S' := zcs453) (q := 161) rfl rfl ?_
  refine in_c (x := ()) (s := zcs455) zct_X6_init_453 ?_
  refine in_b (x := zcs456) (in_sR (j := 34) (n := 64) (f := zcf59) rfl ⟨_, rfl⟩ (by decide) (by decide)) ?_
  refine in_b (x := 124) rfl ?_
  refine in_n (S' := zcs457) (q := 162) rfl rfl ?_
  refine in_c (x := ()) (s := zcs459) zct_X6_init_457 ?_
  refine in_b (x := zcs460) (in_sR (j := 35) (n := 64) (f := zcf60) rfl ⟨_, rfl⟩ (by decide) (by decide)) ?_
  refine in_b (x := 124) rfl ?_
  refine in_n (S' := zcs461) (q := 163) rfl rfl ?_
  refine in_c (x := ()) (s := zcs463) zct_X6_init_461 ?_
  refine in_b (x := zcs464) (in_sR (j := 36) (n := 64) (f := zcf61) rfl ⟨_, rfl⟩ (by decide) (by decide)) ?_
  refine in_b (x := 124) rfl ?_
  refine in_n (S' := zcs465) (q := 164) rfl rfl ?_
  refine in_c (x := ()) (s := zcs467) zct_X6_init_465 ?_
  refine in_b (x := zcs468) (in_sR (j := 37) (n := 64) (f := zcf62) rfl ⟨_, rfl⟩ (by decide) (by decide)) ?_
  refine in_b (x := 124) rfl ?_
  refine in_n (S' := zcs469) (q := 165) rfl rfl ?_
  refine in_c (x := ()) (s := zcs471) zct_X6_init_469 ?_
  refine in_b (x := zcs472) (in_sR (j := 38) (n := 64) (f := zcf63) rfl ⟨_, rfl⟩ (by decide) (by decide)) ?_
  refine in_b (x := 124) rfl ?_
  refine in_n (S' := zcs473) (q := 166) rfl rfl ?_
  refine in_c (x := ()) (s := zcs475) zct_X6_init_473 ?_
  refine in_b (x := zcs476) (in_sR (j := 39) (n := 64) (f := zcf64) rfl ⟨_, rfl⟩ (by decide) (by decide)) ?_
  refine in_b (x := 124) rfl ?_
  refine in_n (S' := zcs477) (q := 167) rfl rfl ?_
  refine in_c (x := ()) (s := zcs479) zct_X6_init_477 ?_
  refine in_b (x := zcs480) (in_sR (j := 40) (n := 64) (f := zcf65) rfl ⟨_, rfl⟩ (by decide) (by decide)) ?_
  refine in_b (x := 124) rfl ?_
  refine in_n (S' := zcs481) (q := 168) rfl rfl ?_
  refine in_c (x := ()) (s := zcs483) zct_X6_init_481 ?_
  refine in_b (x := zcs484) (in_sR (j := 41) (n := 64) (f := zcf66) rfl ⟨_, rfl⟩ (by decide) (by decide)) ?_
  refine in_b (x := 124) rfl ?_
  refine in_n (S' := zcs485) (q := 169) rfl rfl ?_
  refine in_c (x := ()) (s := zcs487) zct_X6_init_485 ?_
  refine in_b (x := zcs488) (in_sR (j := 42) (n := 64) (f := zcf67) rfl ⟨_, rfl⟩ (by decide) (by decide)) ?_
  refine in_b (x := 124) rfl ?_
  refine in_n (S' := zcs489) (q := 170) rfl rfl ?_
  refine in_c (x := ()) (s := zcs491) zct_X6_init_489 ?_
  refine in_b (x := zcs492) (in_sR (j := 43) (n := 64) (f := zcf68) rfl ⟨_, rfl⟩ (by decide) (by decide)) ?_
  refine in_b (x := 124) rfl ?_
  refine in_n (S' := zcs493) (q := 171) rfl rfl ?_
  refine in_c (x := ()) (s := zcs495) zct_X6_init_493 ?_
  refine in_b (x := zcs496) (in_sR (j := 44) (n := 64) (f := zcf69) rfl ⟨_, rfl⟩ (by decide) (by decide)) ?_
  refine in_b (x := 124) rfl ?_
  refine in_n (S' := zcs497) (q := 172) rfl rfl ?_
  refine in_c (x := ()) (s := zcs499) zct_X6_init_497 ?_
  refine in_b (x := zcs500) (in_sR (j := 45) (n := 64) (f := zcf70) rfl ⟨_, rfl⟩ (by decide) (by decide)) ?_
  refine in_b (x := 124) rfl ?_
  refine in_n (S' := zcs501) (q := 173) rfl rfl ?_
  refine in_c (x := ()) (s := zcs503) zct_X6_init_501 ?_
  refine in_b (x := zcs504) (in_sR (j := 46) (n := 64) (f := zcf71) rfl ⟨_, rfl⟩ (by decide) (by decide)) ?_
  refine in_b (x := 124) rfl ?_
  refine in_n (S' := zcs505) (q := 174) rfl rfl ?_
  refine in_c (x := ()) (s := zcs507) zct_X6_init_505 ?_
  refine in_b (x := zcs508) (in_sR (j := 47) (n := 64) (f := zcf72) rfl ⟨_, rfl⟩ (by decide) (by decide)) ?_
  refine in_b (x := 124) rfl ?_
  refine in_n (S' := zcs509) (q := 175) rfl rfl ?_
  refine in_c (x := ()) (s := zcs511) zct_X6_init_509 ?_
  refine in_b (x := zcs512) (in_sR (j := 48) (n := 64) (f := zcf73) rfl ⟨_, rfl⟩ (by decide) (by decide)) ?_
  refine in_b (x := 124) rfl ?_
  refine in_n (S' := zcs513) (q := 176) rfl rfl ?_
  refine in_c (x := ()) (s := zcs515) zct_X6_init_513 ?_
  refine in_b (x := zcs516) (in_sR (j := 49) (n := 64) (f := zcf74) rfl ⟨_, rfl⟩ (by decide) (by decide)) ?_
  refine in_b (x := 124) rfl ?_
  refine in_n (S' := zcs517) (q := 177) rfl rfl ?_
  refine in_c (x := ()) (s := zcs519) zct_X6_init_517 ?_
  refine in_b (x := zcs520) (in_sR (j := 50) (n := 64) (f := zcf75) rfl ⟨_, rfl⟩ (by decide) (by decide)) ?_
  refine in_b (x := 124) rfl ?_
  refine in_n (S' := zcs521) (q := 178) rfl rfl ?_
  refine in_c (x := ()) (s := zcs523) zct_X6_init_521 ?_
  refine in_b (x := zcs524) (in_sR (j := 51) (n := 64) (f := zcf76) rfl ⟨_, rfl⟩ (by decide) (by decide)) ?_
  refine in_b (x := 124) rfl ?_
  refine in_n (S' := zcs525) (q := 179) rfl rfl ?_
  refine in_c (x := ()) (s := zcs527) zct_X6_init_525 ?_
  refine in_b (x := zcs528) (in_sR (j := 52) (n := 64) (f := zcf77) rfl ⟨_, rfl⟩ (by decide) (by decide)) ?_
  refine in_b (x := 124) rfl ?_
  refine in_n (S' := zcs529) (q := 180) rfl rfl ?_
  refine in_c (x := ()) (s := zcs531) zct_X6_init_529 ?_
  refine in_b (x := zcs532) (in_sR (j := 53) (n := 64) (f := zcf78) rfl ⟨_, rfl⟩ (by decide) (by decide)) ?_
  refine in_b (x := 124) rfl ?_
  refine in_n (S' := zcs533) (q := 181) rfl rfl ?_
  refine in_c (x := ()) (s := zcs535) zct_X6_init_533 ?_
  refine in_b (x := zcs536) (in_sR (j := 54) (n := 64) (f := zcf79) rfl ⟨_, rfl⟩ (by decide) (by decide)) ?_
  refine in_b (x := 124) rfl ?_
  refine in_n (S' := zcs537) (q := 182) rfl rfl ?_
  refine in_c (x := ()) (s := zcs539) zct_X6_init_537 ?_
  refine in_b (x := zcs540) (in_sR (j := 55) (n := 64) (f := zcf80) rfl ⟨_, rfl⟩ (by decide) (by decide)) ?_
  refine in_b (x := 124) rfl ?_
  refine in_n (S' := zcs541) (q := 183) rfl rfl ?_
  refine in_c (x := ()) (s := zcs543) zct_X6_init_541 ?_
  refine in_b (x := zcs544) (in_sR (j := 56) (n := 64) (f := zcf81) rfl ⟨_, rfl⟩ (by decide) (by decide)) ?_
  refine in_b (x := 124) rfl ?_
  refine in_n (S' := zcs545) (q := 184) rfl rfl ?_
  refine in_c (x := ()) (s := zcs547) zct_X6_init_545 ?_
  refine in_b (x := zcs548) (in_sR (j := 57) (n := 64) (f := zcf82) rfl ⟨_, rfl⟩ (by decide) (by decide)) ?_
  refine in_b (x := 124) rfl ?_
  refine in_n (S' := zcs549) (q := 185) rfl rfl ?_
  refine in_c (x := ()) (s := zcs551) zct_X6_init_549 ?_
  refine in_b (x := zcs552) (in_sR (j := 58) (n := 64) (f := zcf83) rfl ⟨_, rfl⟩ (by decide) (by decide)) ?_
  refine in_b (x := 124) rfl ?_
  refine in_n (S' := zcs553) (q := 186) rfl rfl ?_
  refine in_c (x := ()) (s := zcs555) zct_X6_init_553 ?_
  refine in_b (x := zcs556) (in_sR (j := 59) (n := 64) (f := zcf84) rfl ⟨_, rfl⟩ (by decide) (by decide)) ?_
  refine in_b (x := 124) rfl ?_
  refine in_n (S' := zcs557) (q := 187) rfl rfl ?_
  refine in_c (x := ()) (s := zcs559) zct_X6_init_557 ?_
  refine in_b (x := zcs560) (in_sR (j := 60) (n := 64) (f := zcf85) rfl ⟨_, rfl⟩ (by decide) (by decide)) ?_
  refine in_b (x := 124) rfl ?_
  refine in_n (S' := zcs561) (q := 188) rfl rfl ?_
  refine in_c (x := ()) (s := zcs563) zct_X6_init_561 ?_
  refine in_b (x := zcs564) (in_sR (j := 61) (n := 64) (f := zcf86) rfl ⟨_, rfl⟩ (by decide) (by decide)) ?_
  refine in_b (x := 124) rfl ?_
  refine in_n (S' := zcs565) (q := 189) rfl rfl ?_
  refine in_c (x := ()) (s := zcs567) zct_X6_init_565 ?_
  refine in_b (x := zcs568) (in_sR (j := 62) (n := 64) (f := zcf87) rfl ⟨_, rfl⟩ (by decide) (by decide)) ?_
  refine in_b (x := 124) rfl ?_
  refine in_n (S' := zcs569) (q := 190) rfl rfl ?_
  refine in_c (x := ()) (s := zcs571) zct_X6_init_569 ?_
  refine in_b (x := zcs572) (in_sR (j := 63) (n := 64) (f := zcf88) rfl ⟨_, rfl⟩ (by decide) (by decide)) ?_
  rfl
def zcs573 : Sto := (191, va_up zcs572.2 0 (.inr (11, [.ref 1, .int 0, .ref 2, .ref 7, .ref 22, .ref 37, .ref 38, .ref 42, .ref 46, .ref 49, .ref 54, .ref 69, .ref 123, .null, .null])))
def zcs574 : Sto := (192, va_up zcs573.2 191 (.inr (6, [.long 0, .long 0])))
def zcs575 : Sto := (192, va_up zcs574.2 191 (.inr (6, [.long 0, .long 0])))
def zcs576 : Sto := (192, va_up zcs575.2 191 (.inr (6, [.long 0, .long 1])))
set_option maxRecDepth 100000 in
theorem zct_X6_init_574 : fX6_init 191 zcs574 = some ((), zcs576) := by
  unfold fX6_init
  refine in_b (x := zcs575) rfl ?_
  refine in_b (x := zcs576) rfl ?_
  rfl
def zcs577 : Sto := (192, va_up zcs576.2 0 (.inr (11, [.ref 1, .int 0, .ref 2, .ref 7, .ref 22, .ref 37, .ref 38, .ref 42, .ref 46, .ref 49, .ref 54, .ref 69, .ref 123, .ref 191, .null])))
def zcs578 : Sto := (193, va_up zcs577.2 192 (.inl (2, 64, .inl (fun _ => 0))))
def zcs579 : Sto := (193, va_up zcs578.2 0 (.inr (11, [.ref 1, .int 0, .ref 2, .ref 7, .ref 22, .ref 37, .ref 38, .ref 42, .ref 46, .ref 49, .ref 54, .ref 69, .ref 123, .ref 191, .ref 192])))
set_option maxRecDepth 100000 in
theorem zct_X11_init_0 : fX11_init 0 zcs0 = some ((), zcs579) := by
  unfold fX11_init
  refine in_n (S' := zcs1) (q := 1) rfl rfl ?_
  refine in_b (x := zcs2) rfl ?_
  refine in_b (x := zcs3) rfl ?_
  refine in_n (S' := zcs4) (q := 2) rfl rfl ?_
  refine in_c (x := ()) (s := zcs29) zct_X9_init_4 ?_
  refine in_b (x := zcs30) rfl ?_
  refine in_n (S' := zcs31) (q := 7) rfl rfl ?_
  refine in_c (x := ()) (s := zcs64) zct_X10_init_31 ?_
  refine in_b (x := zcs65) rfl ?_
  refine in_n (S' := zcs66) (q := 22) rfl rfl ?_
  refine in_c (x := ()) (s := zcs99) zct_X10_init_66 ?_
  refine in_b (x := zcs100) rfl ?_
  refine in_n (S' := zcs101) (q := 37) rfl rfl ?_
  refine in_b (x := 2) rfl ?_
  refine in_b (x := 22) rfl ?_
  refine in_c (x := ()) (s := zcs110) zct_X3_init_101 ?_
  refine in_b (x := zcs111) rfl ?_
  refine in_n (S' := zcs112) (q := 38) rfl rfl ?_
  refine in_c (x := ()) (s := zcs119) zct_X5_init_112 ?_
  refine in_b (x := zcs120) rfl ?_
  refine in_n (S' := zcs121) (q := 42) rfl rfl ?_
  refine in_c (x := ()) (s := zcs128) zct_X5_init_121 ?_
  refine in_b (x := zcs129) rfl ?_
  refine in_n (S' := zcs130) (q := 46) rfl rfl ?_
  refine in_b (x := 7) rfl ?_
  refine in_b (x := 38) rfl ?_
  refine in_c (x := ()) (s := zcs138) zct_X0_init_130 ?_
  refine in_b (x := zcs139) rfl ?_
  refine in_n (S' := zcs140) (q := 49) rfl rfl ?_
  refine in_c (x := ()) (s := zcs150) zct_X4_init_140 ?_
  refine in_b (x := zcs151) rfl ?_
  refine in_n (S' := zcs152) (q := 54) rfl rfl ?_
  refine in_c (x := ()) (s := zcs183) zct_X8_init_152 ?_
  refine in_b (x := zcs184) rfl ?_
  refine in_n (S' := zcs185) (q := 69) rfl rfl ?_
  refine in_c (x := ()) (s := zcs306) zct_X1_init_185 ?_
  refine in_b (x := zcs307) rfl ?_
  refine in_n (S' := zcs308) (q := 123) rfl rfl ?_
  refine in_c (x := ()) (s := zcs572) zct_X2_init_308 ?_
  refine in_b (x := zcs573) rfl ?_
  refine in_n (S' := zcs574) (q := 191) rfl rfl ?_
  refine in_c (x := ()) (s := zcs576) zct_X6_init_574 ?_
  refine in_b (x := zcs577) rfl ?_
  refine in_n (S' := zcs578) (q := 192) rfl rfl ?_
  refine in_b (x := zcs579) rfl ?_
  rfl
