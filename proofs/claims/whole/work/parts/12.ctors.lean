section HZ
variable {G : GP} {M : Mt} {h mc ms n0 : Nat} {ρ : Type} {inj : ρ → Option Value} {kc ks pc : Nat} {lv : List (Nat × Value)} {st : List Value} {σ : Sto} {X : Option (ρ × Sto)}
theorem hj_icmp_ge_T {x y : Int32} {off : Int} (tgt : Nat) (hd : decode M.2.1 pc = .ok (.if_icmp .ge off, 3)) (ht : (pc : Int) + off = (tgt : Int)) (hc : y ≤ x) (k : Sim G M h mc ms n0 inj kc ks tgt lv st σ X) : Sim G M h mc ms n0 inj kc ks pc lv (.int y :: .int x :: st) σ X := by
  have h1 := hj_icmp_ge (X1 := X) (X2 := X) tgt hd ht (fun _ => k) (fun h => absurd hc h)
  rwa [ite_self] at h1
theorem hj_icmp_ge_F {x y : Int32} {off : Int} (tgt : Nat) (hd : decode M.2.1 pc = .ok (.if_icmp .ge off, 3)) (ht : (pc : Int) + off = (tgt : Int)) (hc : ¬ y ≤ x) (k : Sim G M h mc ms n0 inj kc ks (pc + 3) lv st σ X) : Sim G M h mc ms n0 inj kc ks pc lv (.int y :: .int x :: st) σ X := by
  have h1 := hj_icmp_ge (X1 := X) (X2 := X) tgt hd ht (fun h => absurd h hc) (fun _ => k)
  rwa [ite_self] at h1
theorem hj_iincK {i : Nat} {n : Int} {x : Int32} {lv' : List (Nat × Value)} (j : Nat) (w : Int32) (hd : decode M.2.1 pc = .ok (.iinc i n, 3)) (hk : lv[j]? = some (i, .int x)) (hn : i < M.2.2.1) (hw : x + Int32.ofInt n = w) (js : List Nat) (hv : lv_pick ((i, .int w) :: lv.filter (fun q => !(q.1 == i) && !(q.1 + 1 == i && q.2.category == 2))) js = lv') (k : Sim G M h mc ms n0 inj kc ks (pc + 3) lv' st σ X) : Sim G M h mc ms n0 inj kc ks pc lv st σ X := by
  intro r σ' hX p e s m args below meth c H locs ls hM hC hl
  refine lv_iinc (k := j) (x := x) (v := w) hM.1 hM.2.1 hd hl (hs_Lget hk) hw hn rfl (fun ls' hl' => ?_)
  rw [hs_Lfilt] at hl'
  exact k r σ' hX p e s m args below meth c H locs ls' hM hC (lv_sub hl' js (hs_Lpick (lv := (i, .int w) :: lv.filter (fun q => !(q.1 == i) && !(q.1 + 1 == i && q.2.category == 2))) hv))
end HZ


theorem fpX0_9 : hs_FP RX0 "<init>" 9 0 2 (.array .int) := ⟨RX0, TX0, 6, tyX0, rfl, cfX0, tyX0_ok, nmX0, by decide, by decide +kernel, Or.inr ⟨rfl, (hs_inT 395 (by decide +kernel) rfl), rfl, rfl⟩⟩
theorem fpX0_15 : hs_FP RX0 "<init>" 15 0 3 (.array .int) := ⟨RX0, TX0, 6, tyX0, rfl, cfX0, tyX0_ok, nmX0, by decide, by decide +kernel, Or.inr ⟨rfl, (hs_inT 397 (by decide +kernel) rfl), rfl, rfl⟩⟩
theorem fpX1_17 : hs_FP RX1 "<init>" 17 1 1 (.array (.object "EdgePile$Sight")) := ⟨RX1, TX1, 8, tyX1, rfl, cfX1, tyX1_ok, nmX1, by decide, by decide +kernel, Or.inr ⟨rfl, (hs_inT 503 (by decide +kernel) rfl), rfl, rfl⟩⟩
theorem fpX1_21 : hs_FP RX1 "<init>" 21 1 2 (.array .int) := ⟨RX1, TX1, 8, tyX1, rfl, cfX1, tyX1_ok, nmX1, by decide, by decide +kernel, Or.inr ⟨rfl, (hs_inT 504 (by decide +kernel) rfl), rfl, rfl⟩⟩
theorem fpX1_25 : hs_FP RX1 "<init>" 25 1 3 (.array .int) := ⟨RX1, TX1, 8, tyX1, rfl, cfX1, tyX1_ok, nmX1, by decide, by decide +kernel, Or.inr ⟨rfl, (hs_inT 505 (by decide +kernel) rfl), rfl, rfl⟩⟩
theorem fpX1_34 : hs_FP RX1 "<init>" 34 1 6 (.array .int) := ⟨RX1, TX1, 8, tyX1, rfl, cfX1, tyX1_ok, nmX1, by decide, by decide +kernel, Or.inr ⟨rfl, (hs_inT 509 (by decide +kernel) rfl), rfl, rfl⟩⟩
theorem fpX1_37 : hs_FP RX1 "<init>" 37 1 7 (.array .int) := ⟨RX1, TX1, 8, tyX1, rfl, cfX1, tyX1_ok, nmX1, by decide, by decide +kernel, Or.inr ⟨rfl, (hs_inT 511 (by decide +kernel) rfl), rfl, rfl⟩⟩
theorem fpX10_15 : hs_FP RX10 "<init>" 15 10 1 (.array .long) := ⟨RX10, TX10, 15, tyX10, rfl, cfX10, tyX10_ok, nmX10, by decide, by decide +kernel, Or.inr ⟨rfl, (hs_inT 285 (by decide +kernel) rfl), rfl, rfl⟩⟩
theorem fpX10_19 : hs_FP RX10 "<init>" 19 10 2 (.array .int) := ⟨RX10, TX10, 15, tyX10, rfl, cfX10, tyX10_ok, nmX10, by decide, by decide +kernel, Or.inr ⟨rfl, (hs_inT 286 (by decide +kernel) rfl), rfl, rfl⟩⟩
theorem fpX10_23 : hs_FP RX10 "<init>" 23 10 3 (.array .int) := ⟨RX10, TX10, 15, tyX10, rfl, cfX10, tyX10_ok, nmX10, by decide, by decide +kernel, Or.inr ⟨rfl, (hs_inT 291 (by decide +kernel) rfl), rfl, rfl⟩⟩
theorem fpX10_26 : hs_FP RX10 "<init>" 26 10 4 (.array .int) := ⟨RX10, TX10, 15, tyX10, rfl, cfX10, tyX10_ok, nmX10, by decide, by decide +kernel, Or.inr ⟨rfl, (hs_inT 294 (by decide +kernel) rfl), rfl, rfl⟩⟩
theorem fpX10_32 : hs_FP RX10 "<init>" 32 10 6 (.array .int) := ⟨RX10, TX10, 15, tyX10, rfl, cfX10, tyX10_ok, nmX10, by decide, by decide +kernel, Or.inr ⟨rfl, (hs_inT 298 (by decide +kernel) rfl), rfl, rfl⟩⟩
theorem fpX10_35 : hs_FP RX10 "<init>" 35 10 7 (.array .int) := ⟨RX10, TX10, 15, tyX10, rfl, cfX10, tyX10_ok, nmX10, by decide, by decide +kernel, Or.inr ⟨rfl, (hs_inT 299 (by decide +kernel) rfl), rfl, rfl⟩⟩
theorem fpX10_38 : hs_FP RX10 "<init>" 38 10 8 (.array .int) := ⟨RX10, TX10, 15, tyX10, rfl, cfX10, tyX10_ok, nmX10, by decide, by decide +kernel, Or.inr ⟨rfl, (hs_inT 300 (by decide +kernel) rfl), rfl, rfl⟩⟩
theorem fpX10_47 : hs_FP RX10 "<init>" 47 10 11 (.array .int) := ⟨RX10, TX10, 15, tyX10, rfl, cfX10, tyX10_ok, nmX10, by decide, by decide +kernel, Or.inr ⟨rfl, (hs_inT 307 (by decide +kernel) rfl), rfl, rfl⟩⟩
theorem fpX10_50 : hs_FP RX10 "<init>" 50 10 12 (.array .int) := ⟨RX10, TX10, 15, tyX10, rfl, cfX10, tyX10_ok, nmX10, by decide, by decide +kernel, Or.inr ⟨rfl, (hs_inT 309 (by decide +kernel) rfl), rfl, rfl⟩⟩
theorem fpX10_53 : hs_FP RX10 "<init>" 53 10 13 (.array .int) := ⟨RX10, TX10, 15, tyX10, rfl, cfX10, tyX10_ok, nmX10, by decide, by decide +kernel, Or.inr ⟨rfl, (hs_inT 313 (by decide +kernel) rfl), rfl, rfl⟩⟩
theorem fpX10_59 : hs_FP RX10 "<init>" 59 10 14 (.object "EdgePile$Pile") := ⟨RX10, TX10, 15, tyX10, rfl, cfX10, tyX10_ok, nmX10, by decide, by decide +kernel, Or.inr ⟨rfl, (hs_inT 315 (by decide +kernel) rfl), rfl, rfl⟩⟩
theorem fpX11_9 : hs_FP RX11 "<init>" 9 11 0 (.array .char) := ⟨RX11, TX11, 15, tyX11, rfl, cfX11, tyX11_ok, nmX11, by decide, by decide +kernel, Or.inr ⟨rfl, (hs_inT 564 (by decide +kernel) rfl), rfl, rfl⟩⟩
theorem fpX11_20 : hs_FP RX11 "<init>" 20 11 2 (.object "EdgePile$Tokens") := ⟨RX11, TX11, 15, tyX11, rfl, cfX11, tyX11_ok, nmX11, by decide, by decide +kernel, Or.inr ⟨rfl, (hs_inT 566 (by decide +kernel) rfl), rfl, rfl⟩⟩
theorem fpX11_39 : hs_FP RX11 "<init>" 39 11 5 (.object "EdgePile$Parser") := ⟨RX11, TX11, 15, tyX11, rfl, cfX11, tyX11_ok, nmX11, by decide, by decide +kernel, Or.inr ⟨rfl, (hs_inT 569 (by decide +kernel) rfl), rfl, rfl⟩⟩
theorem fpX11_46 : hs_FP RX11 "<init>" 46 11 6 (.object "EdgePile$Pile") := ⟨RX11, TX11, 15, tyX11, rfl, cfX11, tyX11_ok, nmX11, by decide, by decide +kernel, Or.inr ⟨rfl, (hs_inT 570 (by decide +kernel) rfl), rfl, rfl⟩⟩
theorem fpX11_50 : hs_FP RX11 "<init>" 50 11 7 (.object "EdgePile$Pile") := ⟨RX11, TX11, 15, tyX11, rfl, cfX11, tyX11_ok, nmX11, by decide, by decide +kernel, Or.inr ⟨rfl, (hs_inT 571 (by decide +kernel) rfl), rfl, rfl⟩⟩
theorem fpX11_58 : hs_FP RX11 "<init>" 58 11 8 (.object "EdgePile$Balance") := ⟨RX11, TX11, 15, tyX11, rfl, cfX11, tyX11_ok, nmX11, by decide, by decide +kernel, Or.inr ⟨rfl, (hs_inT 572 (by decide +kernel) rfl), rfl, rfl⟩⟩
theorem fpX11_65 : hs_FP RX11 "<init>" 65 11 9 (.object "EdgePile$Past") := ⟨RX11, TX11, 15, tyX11, rfl, cfX11, tyX11_ok, nmX11, by decide, by decide +kernel, Or.inr ⟨rfl, (hs_inT 573 (by decide +kernel) rfl), rfl, rfl⟩⟩
theorem fpX11_72 : hs_FP RX11 "<init>" 72 11 10 (.object "EdgePile$Slots") := ⟨RX11, TX11, 15, tyX11, rfl, cfX11, tyX11_ok, nmX11, by decide, by decide +kernel, Or.inr ⟨rfl, (hs_inT 574 (by decide +kernel) rfl), rfl, rfl⟩⟩
theorem fpX11_79 : hs_FP RX11 "<init>" 79 11 11 (.object "EdgePile$Fitting") := ⟨RX11, TX11, 15, tyX11, rfl, cfX11, tyX11_ok, nmX11, by decide, by decide +kernel, Or.inr ⟨rfl, (hs_inT 575 (by decide +kernel) rfl), rfl, rfl⟩⟩
theorem fpX11_86 : hs_FP RX11 "<init>" 86 11 12 (.object "EdgePile$Orders") := ⟨RX11, TX11, 15, tyX11, rfl, cfX11, tyX11_ok, nmX11, by decide, by decide +kernel, Or.inr ⟨rfl, (hs_inT 576 (by decide +kernel) rfl), rfl, rfl⟩⟩
theorem fpX11_93 : hs_FP RX11 "<init>" 93 11 13 (.object "EdgePile$Ratio") := ⟨RX11, TX11, 15, tyX11, rfl, cfX11, tyX11_ok, nmX11, by decide, by decide +kernel, Or.inr ⟨rfl, (hs_inT 577 (by decide +kernel) rfl), rfl, rfl⟩⟩
theorem fpX11_97 : hs_FP RX11 "<init>" 97 11 14 (.array .int) := ⟨RX11, TX11, 15, tyX11, rfl, cfX11, tyX11_ok, nmX11, by decide, by decide +kernel, Or.inr ⟨rfl, (hs_inT 578 (by decide +kernel) rfl), rfl, rfl⟩⟩
theorem fpX12_13 : hs_FP RX12 "<init>" 13 12 1 (.array .byte) := ⟨RX12, TX12, 69, tyX12, rfl, cfX12, tyX12_ok, nmX12, by decide, by decide +kernel, Or.inr ⟨rfl, (hs_inT 1198 (by decide +kernel) rfl), rfl, rfl⟩⟩
theorem fpX12_17 : hs_FP RX12 "<init>" 17 12 3 (.array .byte) := ⟨RX12, TX12, 69, tyX12, rfl, cfX12, tyX12_ok, nmX12, by decide, by decide +kernel, Or.inr ⟨rfl, (hs_inT 1200 (by decide +kernel) rfl), rfl, rfl⟩⟩
theorem fpX12_20 : hs_FP RX12 "<init>" 20 12 5 (.array .int) := ⟨RX12, TX12, 69, tyX12, rfl, cfX12, tyX12_ok, nmX12, by decide, by decide +kernel, Or.inr ⟨rfl, (hs_inT 1202 (by decide +kernel) rfl), rfl, rfl⟩⟩
theorem fpX12_24 : hs_FP RX12 "<init>" 24 12 6 (.array .int) := ⟨RX12, TX12, 69, tyX12, rfl, cfX12, tyX12_ok, nmX12, by decide, by decide +kernel, Or.inr ⟨rfl, (hs_inT 1203 (by decide +kernel) rfl), rfl, rfl⟩⟩
theorem fpX12_27 : hs_FP RX12 "<init>" 27 12 7 (.array .int) := ⟨RX12, TX12, 69, tyX12, rfl, cfX12, tyX12_ok, nmX12, by decide, by decide +kernel, Or.inr ⟨rfl, (hs_inT 1204 (by decide +kernel) rfl), rfl, rfl⟩⟩
theorem fpX12_30 : hs_FP RX12 "<init>" 30 12 8 (.array .long) := ⟨RX12, TX12, 69, tyX12, rfl, cfX12, tyX12_ok, nmX12, by decide, by decide +kernel, Or.inr ⟨rfl, (hs_inT 1205 (by decide +kernel) rfl), rfl, rfl⟩⟩
theorem fpX12_34 : hs_FP RX12 "<init>" 34 12 9 (.array .long) := ⟨RX12, TX12, 69, tyX12, rfl, cfX12, tyX12_ok, nmX12, by decide, by decide +kernel, Or.inr ⟨rfl, (hs_inT 1206 (by decide +kernel) rfl), rfl, rfl⟩⟩
theorem fpX12_40 : hs_FP RX12 "<init>" 40 12 21 (.array .long) := ⟨RX12, TX12, 69, tyX12, rfl, cfX12, tyX12_ok, nmX12, by decide, by decide +kernel, Or.inr ⟨rfl, (hs_inT 1218 (by decide +kernel) rfl), rfl, rfl⟩⟩
theorem fpX12_43 : hs_FP RX12 "<init>" 43 12 22 (.array .int) := ⟨RX12, TX12, 69, tyX12, rfl, cfX12, tyX12_ok, nmX12, by decide, by decide +kernel, Or.inr ⟨rfl, (hs_inT 1219 (by decide +kernel) rfl), rfl, rfl⟩⟩
theorem fpX12_46 : hs_FP RX12 "<init>" 46 12 23 (.array .int) := ⟨RX12, TX12, 69, tyX12, rfl, cfX12, tyX12_ok, nmX12, by decide, by decide +kernel, Or.inr ⟨rfl, (hs_inT 1220 (by decide +kernel) rfl), rfl, rfl⟩⟩
theorem fpX12_49 : hs_FP RX12 "<init>" 49 12 24 (.array .int) := ⟨RX12, TX12, 69, tyX12, rfl, cfX12, tyX12_ok, nmX12, by decide, by decide +kernel, Or.inr ⟨rfl, (hs_inT 1221 (by decide +kernel) rfl), rfl, rfl⟩⟩
theorem fpX12_52 : hs_FP RX12 "<init>" 52 12 25 (.array .int) := ⟨RX12, TX12, 69, tyX12, rfl, cfX12, tyX12_ok, nmX12, by decide, by decide +kernel, Or.inr ⟨rfl, (hs_inT 1222 (by decide +kernel) rfl), rfl, rfl⟩⟩
theorem fpX12_55 : hs_FP RX12 "<init>" 55 12 26 (.array .int) := ⟨RX12, TX12, 69, tyX12, rfl, cfX12, tyX12_ok, nmX12, by decide, by decide +kernel, Or.inr ⟨rfl, (hs_inT 1223 (by decide +kernel) rfl), rfl, rfl⟩⟩
theorem fpX12_58 : hs_FP RX12 "<init>" 58 12 27 (.array .int) := ⟨RX12, TX12, 69, tyX12, rfl, cfX12, tyX12_ok, nmX12, by decide, by decide +kernel, Or.inr ⟨rfl, (hs_inT 1224 (by decide +kernel) rfl), rfl, rfl⟩⟩
theorem fpX12_61 : hs_FP RX12 "<init>" 61 12 28 (.array .int) := ⟨RX12, TX12, 69, tyX12, rfl, cfX12, tyX12_ok, nmX12, by decide, by decide +kernel, Or.inr ⟨rfl, (hs_inT 1225 (by decide +kernel) rfl), rfl, rfl⟩⟩
theorem fpX12_64 : hs_FP RX12 "<init>" 64 12 29 (.array .int) := ⟨RX12, TX12, 69, tyX12, rfl, cfX12, tyX12_ok, nmX12, by decide, by decide +kernel, Or.inr ⟨rfl, (hs_inT 1226 (by decide +kernel) rfl), rfl, rfl⟩⟩
theorem fpX12_67 : hs_FP RX12 "<init>" 67 12 30 (.array .int) := ⟨RX12, TX12, 69, tyX12, rfl, cfX12, tyX12_ok, nmX12, by decide, by decide +kernel, Or.inr ⟨rfl, (hs_inT 1227 (by decide +kernel) rfl), rfl, rfl⟩⟩
theorem fpX12_70 : hs_FP RX12 "<init>" 70 12 31 (.array .int) := ⟨RX12, TX12, 69, tyX12, rfl, cfX12, tyX12_ok, nmX12, by decide, by decide +kernel, Or.inr ⟨rfl, (hs_inT 1228 (by decide +kernel) rfl), rfl, rfl⟩⟩
theorem fpX12_73 : hs_FP RX12 "<init>" 73 12 32 (.array .int) := ⟨RX12, TX12, 69, tyX12, rfl, cfX12, tyX12_ok, nmX12, by decide, by decide +kernel, Or.inr ⟨rfl, (hs_inT 1229 (by decide +kernel) rfl), rfl, rfl⟩⟩
theorem fpX12_76 : hs_FP RX12 "<init>" 76 12 34 (.array .boolean) := ⟨RX12, TX12, 69, tyX12, rfl, cfX12, tyX12_ok, nmX12, by decide, by decide +kernel, Or.inr ⟨rfl, (hs_inT 1231 (by decide +kernel) rfl), rfl, rfl⟩⟩
theorem fpX12_80 : hs_FP RX12 "<init>" 80 12 35 (.array .int) := ⟨RX12, TX12, 69, tyX12, rfl, cfX12, tyX12_ok, nmX12, by decide, by decide +kernel, Or.inr ⟨rfl, (hs_inT 1232 (by decide +kernel) rfl), rfl, rfl⟩⟩
theorem fpX12_83 : hs_FP RX12 "<init>" 83 12 36 (.array .int) := ⟨RX12, TX12, 69, tyX12, rfl, cfX12, tyX12_ok, nmX12, by decide, by decide +kernel, Or.inr ⟨rfl, (hs_inT 1233 (by decide +kernel) rfl), rfl, rfl⟩⟩
theorem fpX12_86 : hs_FP RX12 "<init>" 86 12 37 (.array .int) := ⟨RX12, TX12, 69, tyX12, rfl, cfX12, tyX12_ok, nmX12, by decide, by decide +kernel, Or.inr ⟨rfl, (hs_inT 1234 (by decide +kernel) rfl), rfl, rfl⟩⟩
theorem fpX12_89 : hs_FP RX12 "<init>" 89 12 38 (.array .int) := ⟨RX12, TX12, 69, tyX12, rfl, cfX12, tyX12_ok, nmX12, by decide, by decide +kernel, Or.inr ⟨rfl, (hs_inT 1235 (by decide +kernel) rfl), rfl, rfl⟩⟩
theorem fpX12_92 : hs_FP RX12 "<init>" 92 12 40 (.array .int) := ⟨RX12, TX12, 69, tyX12, rfl, cfX12, tyX12_ok, nmX12, by decide, by decide +kernel, Or.inr ⟨rfl, (hs_inT 1237 (by decide +kernel) rfl), rfl, rfl⟩⟩
theorem fpX12_95 : hs_FP RX12 "<init>" 95 12 41 (.array .int) := ⟨RX12, TX12, 69, tyX12, rfl, cfX12, tyX12_ok, nmX12, by decide, by decide +kernel, Or.inr ⟨rfl, (hs_inT 1238 (by decide +kernel) rfl), rfl, rfl⟩⟩
theorem fpX12_98 : hs_FP RX12 "<init>" 98 12 42 (.array .int) := ⟨RX12, TX12, 69, tyX12, rfl, cfX12, tyX12_ok, nmX12, by decide, by decide +kernel, Or.inr ⟨rfl, (hs_inT 1239 (by decide +kernel) rfl), rfl, rfl⟩⟩
theorem fpX12_101 : hs_FP RX12 "<init>" 101 12 44 (.array .int) := ⟨RX12, TX12, 69, tyX12, rfl, cfX12, tyX12_ok, nmX12, by decide, by decide +kernel, Or.inr ⟨rfl, (hs_inT 1241 (by decide +kernel) rfl), rfl, rfl⟩⟩
theorem fpX12_104 : hs_FP RX12 "<init>" 104 12 45 (.array .int) := ⟨RX12, TX12, 69, tyX12, rfl, cfX12, tyX12_ok, nmX12, by decide, by decide +kernel, Or.inr ⟨rfl, (hs_inT 1242 (by decide +kernel) rfl), rfl, rfl⟩⟩
theorem fpX12_107 : hs_FP RX12 "<init>" 107 12 47 (.array .int) := ⟨RX12, TX12, 69, tyX12, rfl, cfX12, tyX12_ok, nmX12, by decide, by decide +kernel, Or.inr ⟨rfl, (hs_inT 1244 (by decide +kernel) rfl), rfl, rfl⟩⟩
theorem fpX12_110 : hs_FP RX12 "<init>" 110 12 48 (.array .int) := ⟨RX12, TX12, 69, tyX12, rfl, cfX12, tyX12_ok, nmX12, by decide, by decide +kernel, Or.inr ⟨rfl, (hs_inT 1245 (by decide +kernel) rfl), rfl, rfl⟩⟩
theorem fpX12_113 : hs_FP RX12 "<init>" 113 12 52 (.array .int) := ⟨RX12, TX12, 69, tyX12, rfl, cfX12, tyX12_ok, nmX12, by decide, by decide +kernel, Or.inr ⟨rfl, (hs_inT 1249 (by decide +kernel) rfl), rfl, rfl⟩⟩
theorem fpX12_116 : hs_FP RX12 "<init>" 116 12 53 (.array .long) := ⟨RX12, TX12, 69, tyX12, rfl, cfX12, tyX12_ok, nmX12, by decide, by decide +kernel, Or.inr ⟨rfl, (hs_inT 1250 (by decide +kernel) rfl), rfl, rfl⟩⟩
theorem fpX12_119 : hs_FP RX12 "<init>" 119 12 54 (.array .long) := ⟨RX12, TX12, 69, tyX12, rfl, cfX12, tyX12_ok, nmX12, by decide, by decide +kernel, Or.inr ⟨rfl, (hs_inT 1251 (by decide +kernel) rfl), rfl, rfl⟩⟩
theorem fpX12_122 : hs_FP RX12 "<init>" 122 12 56 (.array .int) := ⟨RX12, TX12, 69, tyX12, rfl, cfX12, tyX12_ok, nmX12, by decide, by decide +kernel, Or.inr ⟨rfl, (hs_inT 1253 (by decide +kernel) rfl), rfl, rfl⟩⟩
theorem fpX12_125 : hs_FP RX12 "<init>" 125 12 57 (.array .int) := ⟨RX12, TX12, 69, tyX12, rfl, cfX12, tyX12_ok, nmX12, by decide, by decide +kernel, Or.inr ⟨rfl, (hs_inT 1254 (by decide +kernel) rfl), rfl, rfl⟩⟩
theorem fpX12_128 : hs_FP RX12 "<init>" 128 12 61 (.array .int) := ⟨RX12, TX12, 69, tyX12, rfl, cfX12, tyX12_ok, nmX12, by decide, by decide +kernel, Or.inr ⟨rfl, (hs_inT 1258 (by decide +kernel) rfl), rfl, rfl⟩⟩
theorem fpX12_131 : hs_FP RX12 "<init>" 131 12 63 (.array .int) := ⟨RX12, TX12, 69, tyX12, rfl, cfX12, tyX12_ok, nmX12, by decide, by decide +kernel, Or.inr ⟨rfl, (hs_inT 1260 (by decide +kernel) rfl), rfl, rfl⟩⟩
theorem fpX12_134 : hs_FP RX12 "<init>" 134 12 64 (.array .boolean) := ⟨RX12, TX12, 69, tyX12, rfl, cfX12, tyX12_ok, nmX12, by decide, by decide +kernel, Or.inr ⟨rfl, (hs_inT 1261 (by decide +kernel) rfl), rfl, rfl⟩⟩
theorem fpX12_137 : hs_FP RX12 "<init>" 137 12 65 (.array .int) := ⟨RX12, TX12, 69, tyX12, rfl, cfX12, tyX12_ok, nmX12, by decide, by decide +kernel, Or.inr ⟨rfl, (hs_inT 1262 (by decide +kernel) rfl), rfl, rfl⟩⟩
theorem fpX12_140 : hs_FP RX12 "<init>" 140 12 66 (.array .int) := ⟨RX12, TX12, 69, tyX12, rfl, cfX12, tyX12_ok, nmX12, by decide, by decide +kernel, Or.inr ⟨rfl, (hs_inT 1263 (by decide +kernel) rfl), rfl, rfl⟩⟩
theorem fpX12_143 : hs_FP RX12 "<init>" 143 12 67 (.array .boolean) := ⟨RX12, TX12, 69, tyX12, rfl, cfX12, tyX12_ok, nmX12, by decide, by decide +kernel, Or.inr ⟨rfl, (hs_inT 1264 (by decide +kernel) rfl), rfl, rfl⟩⟩
theorem fpX12_146 : hs_FP RX12 "<init>" 146 12 68 (.array .int) := ⟨RX12, TX12, 69, tyX12, rfl, cfX12, tyX12_ok, nmX12, by decide, by decide +kernel, Or.inr ⟨rfl, (hs_inT 1265 (by decide +kernel) rfl), rfl, rfl⟩⟩
theorem fpX2_11 : hs_FP RX2 "<init>" 11 2 0 (.array (.object "EdgePile$Ratio")) := ⟨RX2, TX2, 3, tyX2, rfl, cfX2, tyX2_ok, nmX2, by decide, by decide +kernel, Or.inr ⟨rfl, (hs_inT 552 (by decide +kernel) rfl), rfl, rfl⟩⟩
theorem fpX2_17 : hs_FP RX2 "<init>" 17 2 1 (.array .int) := ⟨RX2, TX2, 3, tyX2, rfl, cfX2, tyX2_ok, nmX2, by decide, by decide +kernel, Or.inr ⟨rfl, (hs_inT 553 (by decide +kernel) rfl), rfl, rfl⟩⟩
theorem fpX2_22 : hs_FP RX2 "<init>" 22 2 2 (.object "EdgePile$Ratio") := ⟨RX2, TX2, 3, tyX2, rfl, cfX2, tyX2_ok, nmX2, by decide, by decide +kernel, Or.inr ⟨rfl, (hs_inT 554 (by decide +kernel) rfl), rfl, rfl⟩⟩
theorem fpX3_33 : hs_FP RX3 "<init>" 33 3 0 (.object "EdgePile$Tokens") := ⟨RX3, TX3, 9, tyX3, rfl, cfX3, tyX3_ok, nmX3, by decide, by decide +kernel, Or.inr ⟨rfl, (hs_inT 355 (by decide +kernel) rfl), rfl, rfl⟩⟩
theorem fpX4_18 : hs_FP RX4 "<init>" 18 4 2 (.array .int) := ⟨RX4, TX4, 6, tyX4, rfl, cfX4, tyX4_ok, nmX4, by decide, by decide +kernel, Or.inr ⟨rfl, (hs_inT 425 (by decide +kernel) rfl), rfl, rfl⟩⟩
theorem fpX4_22 : hs_FP RX4 "<init>" 22 4 3 (.array .int) := ⟨RX4, TX4, 6, tyX4, rfl, cfX4, tyX4_ok, nmX4, by decide, by decide +kernel, Or.inr ⟨rfl, (hs_inT 426 (by decide +kernel) rfl), rfl, rfl⟩⟩
theorem fpX4_25 : hs_FP RX4 "<init>" 25 4 4 (.array .int) := ⟨RX4, TX4, 6, tyX4, rfl, cfX4, tyX4_ok, nmX4, by decide, by decide +kernel, Or.inr ⟨rfl, (hs_inT 427 (by decide +kernel) rfl), rfl, rfl⟩⟩
theorem fpX4_28 : hs_FP RX4 "<init>" 28 4 5 (.array .boolean) := ⟨RX4, TX4, 6, tyX4, rfl, cfX4, tyX4_ok, nmX4, by decide, by decide +kernel, Or.inr ⟨rfl, (hs_inT 428 (by decide +kernel) rfl), rfl, rfl⟩⟩
theorem fpX5_15 : hs_FP RX5 "<init>" 15 5 1 (.array .int) := ⟨RX5, TX5, 4, tyX5, rfl, cfX5, tyX5_ok, nmX5, by decide, by decide +kernel, Or.inr ⟨rfl, (hs_inT 261 (by decide +kernel) rfl), rfl, rfl⟩⟩
theorem fpX5_19 : hs_FP RX5 "<init>" 19 5 2 (.array .int) := ⟨RX5, TX5, 4, tyX5, rfl, cfX5, tyX5_ok, nmX5, by decide, by decide +kernel, Or.inr ⟨rfl, (hs_inT 266 (by decide +kernel) rfl), rfl, rfl⟩⟩
theorem fpX5_22 : hs_FP RX5 "<init>" 22 5 3 (.array .boolean) := ⟨RX5, TX5, 4, tyX5, rfl, cfX5, tyX5_ok, nmX5, by decide, by decide +kernel, Or.inr ⟨rfl, (hs_inT 270 (by decide +kernel) rfl), rfl, rfl⟩⟩
theorem fpX7_19 : hs_FP RX7 "<init>" 19 7 2 (.array .int) := ⟨RX7, TX7, 9, tyX7, rfl, cfX7, tyX7_ok, nmX7, by decide, by decide +kernel, Or.inr ⟨rfl, (hs_inT 474 (by decide +kernel) rfl), rfl, rfl⟩⟩
theorem fpX7_23 : hs_FP RX7 "<init>" 23 7 3 (.array .int) := ⟨RX7, TX7, 9, tyX7, rfl, cfX7, tyX7_ok, nmX7, by decide, by decide +kernel, Or.inr ⟨rfl, (hs_inT 476 (by decide +kernel) rfl), rfl, rfl⟩⟩
theorem fpX7_26 : hs_FP RX7 "<init>" 26 7 4 (.array .int) := ⟨RX7, TX7, 9, tyX7, rfl, cfX7, tyX7_ok, nmX7, by decide, by decide +kernel, Or.inr ⟨rfl, (hs_inT 477 (by decide +kernel) rfl), rfl, rfl⟩⟩
theorem fpX7_29 : hs_FP RX7 "<init>" 29 7 5 (.array .int) := ⟨RX7, TX7, 9, tyX7, rfl, cfX7, tyX7_ok, nmX7, by decide, by decide +kernel, Or.inr ⟨rfl, (hs_inT 478 (by decide +kernel) rfl), rfl, rfl⟩⟩
theorem fpX7_32 : hs_FP RX7 "<init>" 32 7 6 (.array .int) := ⟨RX7, TX7, 9, tyX7, rfl, cfX7, tyX7_ok, nmX7, by decide, by decide +kernel, Or.inr ⟨rfl, (hs_inT 479 (by decide +kernel) rfl), rfl, rfl⟩⟩
theorem fpX7_35 : hs_FP RX7 "<init>" 35 7 7 (.array .int) := ⟨RX7, TX7, 9, tyX7, rfl, cfX7, tyX7_ok, nmX7, by decide, by decide +kernel, Or.inr ⟨rfl, (hs_inT 480 (by decide +kernel) rfl), rfl, rfl⟩⟩
theorem fpX7_38 : hs_FP RX7 "<init>" 38 7 8 (.array .boolean) := ⟨RX7, TX7, 9, tyX7, rfl, cfX7, tyX7_ok, nmX7, by decide, by decide +kernel, Or.inr ⟨rfl, (hs_inT 481 (by decide +kernel) rfl), rfl, rfl⟩⟩
theorem fpX8_11 : hs_FP RX8 "<init>" 11 8 0 (.array (.object "EdgePile$Pile")) := ⟨RX8, TX8, 2, tyX8, rfl, cfX8, tyX8_ok, nmX8, by decide, by decide +kernel, Or.inr ⟨rfl, (hs_inT 451 (by decide +kernel) rfl), rfl, rfl⟩⟩
theorem fpX8_17 : hs_FP RX8 "<init>" 17 8 1 (.array .boolean) := ⟨RX8, TX8, 2, tyX8, rfl, cfX8, tyX8_ok, nmX8, by decide, by decide +kernel, Or.inr ⟨rfl, (hs_inT 452 (by decide +kernel) rfl), rfl, rfl⟩⟩
theorem fpX9_9 : hs_FP RX9 "<init>" 9 9 0 (.array .long) := ⟨RX9, TX9, 5, tyX9, rfl, cfX9, tyX9_ok, nmX9, by decide, by decide +kernel, Or.inr ⟨rfl, (hs_inT 220 (by decide +kernel) rfl), rfl, rfl⟩⟩
theorem fpX9_15 : hs_FP RX9 "<init>" 15 9 1 (.array .int) := ⟨RX9, TX9, 5, tyX9, rfl, cfX9, tyX9_ok, nmX9, by decide, by decide +kernel, Or.inr ⟨rfl, (hs_inT 221 (by decide +kernel) rfl), rfl, rfl⟩⟩
theorem fpX9_19 : hs_FP RX9 "<init>" 19 9 2 (.array .int) := ⟨RX9, TX9, 5, tyX9, rfl, cfX9, tyX9_ok, nmX9, by decide, by decide +kernel, Or.inr ⟨rfl, (hs_inT 223 (by decide +kernel) rfl), rfl, rfl⟩⟩
theorem fpX9_22 : hs_FP RX9 "<init>" 22 9 3 (.array .long) := ⟨RX9, TX9, 5, tyX9, rfl, cfX9, tyX9_ok, nmX9, by decide, by decide +kernel, Or.inr ⟨rfl, (hs_inT 225 (by decide +kernel) rfl), rfl, rfl⟩⟩
theorem mfX0_init : hs_MF mX0_init 2 := ⟨(hs_inT 391 (by decide +kernel) rfl), (hs_inT 142 (by decide +kernel) rfl), by decide +kernel, by decide +kernel, by decide +kernel⟩
theorem miX0_init : Cond.instanceMethod mX0_init.1 ∈ hs_T := (hs_inT 390 (by decide +kernel) rfl)
theorem mfX1_init : hs_MF mX1_init 0 := ⟨(hs_inT 462 (by decide +kernel) rfl), (hs_inT 145 (by decide +kernel) rfl), by decide +kernel, by decide +kernel, by decide +kernel⟩
theorem miX1_init : Cond.instanceMethod mX1_init.1 ∈ hs_T := (hs_inT 461 (by decide +kernel) rfl)
theorem mfX2_init : hs_MF mX2_init 0 := ⟨(hs_inT 534 (by decide +kernel) rfl), (hs_inT 147 (by decide +kernel) rfl), by decide +kernel, by decide +kernel, by decide +kernel⟩
theorem miX2_init : Cond.instanceMethod mX2_init.1 ∈ hs_T := (hs_inT 533 (by decide +kernel) rfl)
theorem mfX3_init : hs_MF mX3_init 2 := ⟨(hs_inT 353 (by decide +kernel) rfl), (hs_inT 141 (by decide +kernel) rfl), by decide +kernel, by decide +kernel, by decide +kernel⟩
theorem miX3_init : Cond.instanceMethod mX3_init.1 ∈ hs_T := (hs_inT 352 (by decide +kernel) rfl)
theorem mfX4_init : hs_MF mX4_init 0 := ⟨(hs_inT 420 (by decide +kernel) rfl), (hs_inT 143 (by decide +kernel) rfl), by decide +kernel, by decide +kernel, by decide +kernel⟩
theorem miX4_init : Cond.instanceMethod mX4_init.1 ∈ hs_T := (hs_inT 419 (by decide +kernel) rfl)
theorem mfX5_init : hs_MF mX5_init 0 := ⟨(hs_inT 253 (by decide +kernel) rfl), (hs_inT 140 (by decide +kernel) rfl), by decide +kernel, by decide +kernel, by decide +kernel⟩
theorem miX5_init : Cond.instanceMethod mX5_init.1 ∈ hs_T := (hs_inT 252 (by decide +kernel) rfl)
theorem mfX6_init : hs_MF mX6_init 0 := ⟨(hs_inT 541 (by decide +kernel) rfl), (hs_inT 148 (by decide +kernel) rfl), by decide +kernel, by decide +kernel, by decide +kernel⟩
theorem miX6_init : Cond.instanceMethod mX6_init.1 ∈ hs_T := (hs_inT 540 (by decide +kernel) rfl)
theorem mfX7_init : hs_MF mX7_init 0 := ⟨(hs_inT 469 (by decide +kernel) rfl), (hs_inT 146 (by decide +kernel) rfl), by decide +kernel, by decide +kernel, by decide +kernel⟩
theorem miX7_init : Cond.instanceMethod mX7_init.1 ∈ hs_T := (hs_inT 468 (by decide +kernel) rfl)
theorem mfX8_init : hs_MF mX8_init 0 := ⟨(hs_inT 446 (by decide +kernel) rfl), (hs_inT 144 (by decide +kernel) rfl), by decide +kernel, by decide +kernel, by decide +kernel⟩
theorem miX8_init : Cond.instanceMethod mX8_init.1 ∈ hs_T := (hs_inT 445 (by decide +kernel) rfl)
theorem mfX9_init : hs_MF mX9_init 0 := ⟨(hs_inT 164 (by decide +kernel) rfl), (hs_inT 134 (by decide +kernel) rfl), by decide +kernel, by decide +kernel, by decide +kernel⟩
theorem miX9_init : Cond.instanceMethod mX9_init.1 ∈ hs_T := (hs_inT 163 (by decide +kernel) rfl)
theorem mfX10_init : hs_MF mX10_init 0 := ⟨(hs_inT 247 (by decide +kernel) rfl), (hs_inT 139 (by decide +kernel) rfl), by decide +kernel, by decide +kernel, by decide +kernel⟩
theorem miX10_init : Cond.instanceMethod mX10_init.1 ∈ hs_T := (hs_inT 246 (by decide +kernel) rfl)
theorem mfX12_word : hs_MF mX12_word 7 := ⟨(hs_inT 1193 (by decide +kernel) rfl), (hs_inT 149 (by decide +kernel) rfl), by decide +kernel, by decide +kernel, by decide +kernel⟩
theorem msX12_word : Cond.static mX12_word.1 ∈ hs_T := (hs_inT 1192 (by decide +kernel) rfl)
theorem mlX1_40 : hs_ML RX1 40 mX7_init.1 := Or.inr ⟨"EdgePile", hs_inN 335 (by decide +kernel) rfl⟩
theorem mlX10_58 : hs_ML RX10 58 mX5_init.1 := Or.inr ⟨"EdgePile", hs_inN 119 (by decide +kernel) rfl⟩
theorem mlX11_19 : hs_ML RX11 19 mX9_init.1 := Or.inr ⟨"EdgePile", hs_inN 30 (by decide +kernel) rfl⟩
theorem mlX11_26 : hs_ML RX11 26 mX10_init.1 := Or.inr ⟨"EdgePile", hs_inN 113 (by decide +kernel) rfl⟩
theorem mlX11_36 : hs_ML RX11 36 mX3_init.1 := Or.inr ⟨"EdgePile", hs_inN 219 (by decide +kernel) rfl⟩
theorem mlX11_45 : hs_ML RX11 45 mX5_init.1 := Or.inr ⟨"EdgePile", hs_inN 254 (by decide +kernel) rfl⟩
theorem mlX11_55 : hs_ML RX11 55 mX0_init.1 := Or.inr ⟨"EdgePile", hs_inN 257 (by decide +kernel) rfl⟩
theorem mlX11_64 : hs_ML RX11 64 mX4_init.1 := Or.inr ⟨"EdgePile", hs_inN 286 (by decide +kernel) rfl⟩
theorem mlX11_71 : hs_ML RX11 71 mX8_init.1 := Or.inr ⟨"EdgePile", hs_inN 312 (by decide +kernel) rfl⟩
theorem mlX11_78 : hs_ML RX11 78 mX1_init.1 := Or.inr ⟨"EdgePile", hs_inN 328 (by decide +kernel) rfl⟩
theorem mlX11_85 : hs_ML RX11 85 mX2_init.1 := Or.inr ⟨"EdgePile", hs_inN 400 (by decide +kernel) rfl⟩
theorem mlX11_92 : hs_ML RX11 92 mX6_init.1 := Or.inr ⟨"EdgePile", hs_inN 431 (by decide +kernel) rfl⟩
theorem mlX12_149 : Cond.methodLink RX12 149 mX12_word.1 ∈ hs_T := (hs_inT 1191 (by decide +kernel) rfl)
theorem mlX2_21 : hs_ML RX2 21 mX6_init.1 := Or.inr ⟨"EdgePile", hs_inN 407 (by decide +kernel) rfl⟩
theorem mlX8_21 : hs_ML RX8 21 mX5_init.1 := Or.inr ⟨"EdgePile", hs_inN 318 (by decide +kernel) rfl⟩
theorem olX0_3 : Cond.methodLink RX0 3 objectInit ∈ hs_T := (hs_inT 392 (by decide +kernel) rfl)
theorem olX1_3 : Cond.methodLink RX1 3 objectInit ∈ hs_T := (hs_inT 463 (by decide +kernel) rfl)
theorem olX10_3 : Cond.methodLink RX10 3 objectInit ∈ hs_T := (hs_inT 248 (by decide +kernel) rfl)
theorem olX11_3 : Cond.methodLink RX11 3 objectInit ∈ hs_T := (hs_inT 157 (by decide +kernel) rfl)
theorem olX12_7 : Cond.methodLink RX12 7 objectInit ∈ hs_T := (hs_inT 1190 (by decide +kernel) rfl)
theorem olX2_3 : Cond.methodLink RX2 3 objectInit ∈ hs_T := (hs_inT 535 (by decide +kernel) rfl)
theorem olX3_3 : Cond.methodLink RX3 3 objectInit ∈ hs_T := (hs_inT 354 (by decide +kernel) rfl)
theorem olX4_3 : Cond.methodLink RX4 3 objectInit ∈ hs_T := (hs_inT 421 (by decide +kernel) rfl)
theorem olX5_3 : Cond.methodLink RX5 3 objectInit ∈ hs_T := (hs_inT 254 (by decide +kernel) rfl)
theorem olX6_1 : Cond.methodLink RX6 1 objectInit ∈ hs_T := (hs_inT 542 (by decide +kernel) rfl)
theorem olX7_3 : Cond.methodLink RX7 3 objectInit ∈ hs_T := (hs_inT 470 (by decide +kernel) rfl)
theorem olX8_3 : Cond.methodLink RX8 3 objectInit ∈ hs_T := (hs_inT 447 (by decide +kernel) rfl)
theorem olX9_3 : Cond.methodLink RX9 3 objectInit ∈ hs_T := (hs_inT 165 (by decide +kernel) rfl)
theorem oo_i : Cond.instanceMethod objectInit ∈ hs_T := (hs_inT 158 (by decide +kernel) rfl)
theorem oo_c : Cond.code objectInit ⟨#[0xb1]⟩ 1 none ∈ hs_T := (hs_inT 159 (by decide +kernel) rfl)
theorem clX1_15 : Cond.classLink RX1 15 RX7 ∈ hs_T := (hs_inT 464 (by decide +kernel) rfl)
theorem clX10_56 : Cond.classLink RX10 56 RX5 ∈ hs_T := (hs_inT 249 (by decide +kernel) rfl)
theorem clX11_17 : Cond.classLink RX11 17 RX9 ∈ hs_T := (hs_inT 160 (by decide +kernel) rfl)
theorem clX11_24 : Cond.classLink RX11 24 RX10 ∈ hs_T := (hs_inT 243 (by decide +kernel) rfl)
theorem clX11_34 : Cond.classLink RX11 34 RX3 ∈ hs_T := (hs_inT 349 (by decide +kernel) rfl)
theorem clX11_43 : Cond.classLink RX11 43 RX5 ∈ hs_T := (hs_inT 385 (by decide +kernel) rfl)
theorem clX11_53 : Cond.classLink RX11 53 RX0 ∈ hs_T := (hs_inT 387 (by decide +kernel) rfl)
theorem clX11_62 : Cond.classLink RX11 62 RX4 ∈ hs_T := (hs_inT 416 (by decide +kernel) rfl)
theorem clX11_69 : Cond.classLink RX11 69 RX8 ∈ hs_T := (hs_inT 442 (by decide +kernel) rfl)
theorem clX11_76 : Cond.classLink RX11 76 RX1 ∈ hs_T := (hs_inT 458 (by decide +kernel) rfl)
theorem clX11_83 : Cond.classLink RX11 83 RX2 ∈ hs_T := (hs_inT 530 (by decide +kernel) rfl)
theorem clX11_90 : Cond.classLink RX11 90 RX6 ∈ hs_T := (hs_inT 562 (by decide +kernel) rfl)
theorem clX2_9 : Cond.classLink RX2 9 RX6 ∈ hs_T := (hs_inT 536 (by decide +kernel) rfl)
theorem clX8_9 : Cond.classLink RX8 9 RX5 ∈ hs_T := (hs_inT 448 (by decide +kernel) rfl)
theorem itX0 : Cond.instantiable RX0 6 ∈ hs_T := (hs_inT 388 (by decide +kernel) rfl)
theorem izX0 : Cond.initialized RX0 ∈ hs_T := (hs_inT 142 (by decide +kernel) rfl)
theorem itX1 : Cond.instantiable RX1 8 ∈ hs_T := (hs_inT 459 (by decide +kernel) rfl)
theorem izX1 : Cond.initialized RX1 ∈ hs_T := (hs_inT 145 (by decide +kernel) rfl)
theorem itX2 : Cond.instantiable RX2 3 ∈ hs_T := (hs_inT 531 (by decide +kernel) rfl)
theorem izX2 : Cond.initialized RX2 ∈ hs_T := (hs_inT 147 (by decide +kernel) rfl)
theorem itX3 : Cond.instantiable RX3 9 ∈ hs_T := (hs_inT 350 (by decide +kernel) rfl)
theorem izX3 : Cond.initialized RX3 ∈ hs_T := (hs_inT 141 (by decide +kernel) rfl)
theorem itX4 : Cond.instantiable RX4 6 ∈ hs_T := (hs_inT 417 (by decide +kernel) rfl)
theorem izX4 : Cond.initialized RX4 ∈ hs_T := (hs_inT 143 (by decide +kernel) rfl)
theorem itX5 : Cond.instantiable RX5 4 ∈ hs_T := (hs_inT 250 (by decide +kernel) rfl)
theorem izX5 : Cond.initialized RX5 ∈ hs_T := (hs_inT 140 (by decide +kernel) rfl)
theorem itX6 : Cond.instantiable RX6 2 ∈ hs_T := (hs_inT 538 (by decide +kernel) rfl)
theorem izX6 : Cond.initialized RX6 ∈ hs_T := (hs_inT 148 (by decide +kernel) rfl)
theorem itX7 : Cond.instantiable RX7 9 ∈ hs_T := (hs_inT 466 (by decide +kernel) rfl)
theorem izX7 : Cond.initialized RX7 ∈ hs_T := (hs_inT 146 (by decide +kernel) rfl)
theorem itX8 : Cond.instantiable RX8 2 ∈ hs_T := (hs_inT 443 (by decide +kernel) rfl)
theorem izX8 : Cond.initialized RX8 ∈ hs_T := (hs_inT 144 (by decide +kernel) rfl)
theorem itX9 : Cond.instantiable RX9 5 ∈ hs_T := (hs_inT 161 (by decide +kernel) rfl)
theorem izX9 : Cond.initialized RX9 ∈ hs_T := (hs_inT 134 (by decide +kernel) rfl)
theorem itX10 : Cond.instantiable RX10 15 ∈ hs_T := (hs_inT 244 (by decide +kernel) rfl)
theorem izX10 : Cond.initialized RX10 ∈ hs_T := (hs_inT 139 (by decide +kernel) rfl)
theorem itX11 : Cond.instantiable RX11 15 ∈ hs_T := (hs_inT 153 (by decide +kernel) rfl)
theorem izX11 : Cond.initialized RX11 ∈ hs_T := (hs_inT 133 (by decide +kernel) rfl)
theorem itX12 : Cond.instantiable RX12 69 ∈ hs_T := (hs_inT 1186 (by decide +kernel) rfl)
theorem izX12 : Cond.initialized RX12 ∈ hs_T := (hs_inT 149 (by decide +kernel) rfl)
theorem ac_boolean : Cond.arrayClass (newarray.typeOf .boolean) ∈ hs_T := (hs_inT 281 (by decide +kernel) rfl)
theorem ac_byte : Cond.arrayClass (newarray.typeOf .byte) ∈ hs_T := (hs_inT 242 (by decide +kernel) rfl)
theorem ac_char : Cond.arrayClass (newarray.typeOf .char) ∈ hs_T := (hs_inT 239 (by decide +kernel) rfl)
theorem ac_int : Cond.arrayClass (newarray.typeOf .int) ∈ hs_T := (hs_inT 241 (by decide +kernel) rfl)
theorem ac_long : Cond.arrayClass (newarray.typeOf .long) ∈ hs_T := (hs_inT 240 (by decide +kernel) rfl)
set_option maxRecDepth 20000 in
def fX0_init (a0 : Nat) (a1 : Nat) (a2 : Nat) (σ : Sto) : Option (Unit × Sto) := (nw σ (.inl (2, (6, .inl (fun _ => 0)))) fun q1 σ2 => ((pV σ2 0 a0 2 (.ref q1)).bind fun σ3 => (nw σ3 (.inl (2, (6, .inl (fun _ => 0)))) fun q4 σ5 => ((pV σ5 0 a0 3 (.ref q4)).bind fun σ6 => ((pV σ6 0 a0 4 (.int ((0 : Int32)))).bind fun σ7 => ((pV σ7 0 a0 5 (.int ((0 : Int32)))).bind fun σ8 => ((pV σ8 0 a0 0 (.ref a1)).bind fun σ9 => ((pV σ9 0 a0 1 (.ref a2)).bind fun σ10 => (some ((), σ10))))))))))
set_option maxHeartbeats 8000000 in
set_option maxRecDepth 20000 in
theorem kX0_init (G : GP) (a0 : Nat) (a1 : Nat) (a2 : Nat) (σ : Sto) : Me G mX0_init 1 2 12 jV [.ref a0, .ref a1, .ref a2] σ (fX0_init a0 a1 a2 σ) := by
  refine hs_me (lv := [(0, .ref a0), (1, .ref a1), (2, .ref a2)]) (plainFor_of_name (by decide +kernel)) (Nat.le_of_ble_eq_true rfl) rfl ?_
  unfold fX0_init
  refine hj_aload_n 0 dX0_init_0 rfl ?_
  refine hj_oinit olX0_3 oo_i oo_c dX0_init_1 (Nat.le_of_ble_eq_true rfl) (Nat.le_of_ble_eq_true rfl) ?_
  refine hj_aload_n 0 dX0_init_4 rfl ?_
  refine hj_bipush (6 : Int32) dX0_init_5 (by decide) ?_
  refine hj_newa (t := 2) (N := 6) (ty := .int) (6, .inl (fun _ => 0)) ac_int rfl (fun _ => rfl) (fun _ _ _ h1 h2 => Option.some.inj (h1.symm.trans h2)) (fun _ => rfl) (fun _ => rfl) (by decide) (by decide) (by decide) dX0_init_7 (Nat.le_of_ble_eq_true rfl) (Nat.le_of_ble_eq_true rfl) (fun q1 σ2 => ?_)
  refine hj_put fpX0_9 (fun _ => rfl) (fun _ => rfl) dX0_init_9 (fun σ3 _ => ?_)
  refine hj_aload_n 0 dX0_init_12 rfl ?_
  refine hj_bipush (6 : Int32) dX0_init_13 (by decide) ?_
  refine hj_newa (t := 2) (N := 6) (ty := .int) (6, .inl (fun _ => 0)) ac_int rfl (fun _ => rfl) (fun _ _ _ h1 h2 => Option.some.inj (h1.symm.trans h2)) (fun _ => rfl) (fun _ => rfl) (by decide) (by decide) (by decide) dX0_init_15 (Nat.le_of_ble_eq_true rfl) (Nat.le_of_ble_eq_true rfl) (fun q4 σ5 => ?_)
  refine hj_put fpX0_15 (fun _ => rfl) (fun _ => rfl) dX0_init_17 (fun σ6 _ => ?_)
  refine hj_aload_n 0 dX0_init_20 rfl ?_
  refine hj_iconst (0 : Int32) dX0_init_21 (by decide) ?_
  refine hj_put (fpX0_18 _) (fun _ => rfl) (fun _ => rfl) dX0_init_22 (fun σ7 _ => ?_)
  refine hj_aload_n 0 dX0_init_25 rfl ?_
  refine hj_iconst (0 : Int32) dX0_init_26 (by decide) ?_
  refine hj_put (fpX0_22 _) (fun _ => rfl) (fun _ => rfl) dX0_init_27 (fun σ8 _ => ?_)
  refine hj_aload_n 0 dX0_init_30 rfl ?_
  refine hj_aload_n 1 dX0_init_31 rfl ?_
  refine hj_put (fpX0_25 _) (fun _ => rfl) (fun _ => rfl) dX0_init_32 (fun σ9 _ => ?_)
  refine hj_aload_n 0 dX0_init_35 rfl ?_
  refine hj_aload_n 2 dX0_init_36 rfl ?_
  refine hj_put (fpX0_29 _) (fun _ => rfl) (fun _ => rfl) dX0_init_37 (fun σ10 _ => ?_)
  exact hj_vret dX0_init_40 rfl rfl (Nat.le_of_ble_eq_true rfl)
set_option maxRecDepth 20000 in
def fX7_init (a0 : Nat) (σ : Sto) : Option (Unit × Sto) := ((pV σ 7 a0 0 (.int ((0 : Int32)))).bind fun σ1 => ((pV σ1 7 a0 1 (.int ((0 : Int32)))).bind fun σ2 => (nw σ2 (.inl (2, (6, .inl (fun _ => 0)))) fun q3 σ4 => ((pV σ4 7 a0 2 (.ref q3)).bind fun σ5 => (nw σ5 (.inl (2, (6, .inl (fun _ => 0)))) fun q6 σ7 => ((pV σ7 7 a0 3 (.ref q6)).bind fun σ8 => (nw σ8 (.inl (2, (6, .inl (fun _ => 0)))) fun q9 σ10 => ((pV σ10 7 a0 4 (.ref q9)).bind fun σ11 => (nw σ11 (.inl (2, (6, .inl (fun _ => 0)))) fun q12 σ13 => ((pV σ13 7 a0 5 (.ref q12)).bind fun σ14 => (nw σ14 (.inl (2, (6, .inl (fun _ => 0)))) fun q15 σ16 => ((pV σ16 7 a0 6 (.ref q15)).bind fun σ17 => (nw σ17 (.inl (2, (6, .inl (fun _ => 0)))) fun q18 σ19 => ((pV σ19 7 a0 7 (.ref q18)).bind fun σ20 => (nw σ20 (.inl (4, (6, .inl (fun _ => 0)))) fun q21 σ22 => ((pV σ22 7 a0 8 (.ref q21)).bind fun σ23 => (some ((), σ23))))))))))))))))))
set_option maxHeartbeats 8000000 in
set_option maxRecDepth 20000 in
theorem kX7_init (G : GP) (a0 : Nat) (σ : Sto) : Me G mX7_init 1 7 42 jV [.ref a0] σ (fX7_init a0 σ) := by
  refine hs_me (lv := [(0, .ref a0)]) (plainFor_of_name (by decide +kernel)) (Nat.le_of_ble_eq_true rfl) rfl ?_
  unfold fX7_init
  refine hj_aload_n 0 dX7_init_0 rfl ?_
  refine hj_oinit olX7_3 oo_i oo_c dX7_init_1 (Nat.le_of_ble_eq_true rfl) (Nat.le_of_ble_eq_true rfl) ?_
  refine hj_aload_n 0 dX7_init_4 rfl ?_
  refine hj_iconst (0 : Int32) dX7_init_5 (by decide) ?_
  refine hj_put (fpX7_9 _) (fun _ => rfl) (fun _ => rfl) dX7_init_6 (fun σ1 _ => ?_)
  refine hj_aload_n 0 dX7_init_9 rfl ?_
  refine hj_iconst (0 : Int32) dX7_init_10 (by decide) ?_
  refine hj_put (fpX7_15 _) (fun _ => rfl) (fun _ => rfl) dX7_init_11 (fun σ2 _ => ?_)
  refine hj_aload_n 0 dX7_init_14 rfl ?_
  refine hj_bipush (6 : Int32) dX7_init_15 (by decide) ?_
  refine hj_newa (t := 2) (N := 6) (ty := .int) (6, .inl (fun _ => 0)) ac_int rfl (fun _ => rfl) (fun _ _ _ h1 h2 => Option.some.inj (h1.symm.trans h2)) (fun _ => rfl) (fun _ => rfl) (by decide) (by decide) (by decide) dX7_init_17 (Nat.le_of_ble_eq_true rfl) (Nat.le_of_ble_eq_true rfl) (fun q3 σ4 => ?_)
  refine hj_put fpX7_19 (fun _ => rfl) (fun _ => rfl) dX7_init_19 (fun σ5 _ => ?_)
  refine hj_aload_n 0 dX7_init_22 rfl ?_
  refine hj_bipush (6 : Int32) dX7_init_23 (by decide) ?_
  refine hj_newa (t := 2) (N := 6) (ty := .int) (6, .inl (fun _ => 0)) ac_int rfl (fun _ => rfl) (fun _ _ _ h1 h2 => Option.some.inj (h1.symm.trans h2)) (fun _ => rfl) (fun _ => rfl) (by decide) (by decide) (by decide) dX7_init_25 (Nat.le_of_ble_eq_true rfl) (Nat.le_of_ble_eq_true rfl) (fun q6 σ7 => ?_)
  refine hj_put fpX7_23 (fun _ => rfl) (fun _ => rfl) dX7_init_27 (fun σ8 _ => ?_)
  refine hj_aload_n 0 dX7_init_30 rfl ?_
  refine hj_bipush (6 : Int32) dX7_init_31 (by decide) ?_
  refine hj_newa (t := 2) (N := 6) (ty := .int) (6, .inl (fun _ => 0)) ac_int rfl (fun _ => rfl) (fun _ _ _ h1 h2 => Option.some.inj (h1.symm.trans h2)) (fun _ => rfl) (fun _ => rfl) (by decide) (by decide) (by decide) dX7_init_33 (Nat.le_of_ble_eq_true rfl) (Nat.le_of_ble_eq_true rfl) (fun q9 σ10 => ?_)
  refine hj_put fpX7_26 (fun _ => rfl) (fun _ => rfl) dX7_init_35 (fun σ11 _ => ?_)
  refine hj_aload_n 0 dX7_init_38 rfl ?_
  refine hj_bipush (6 : Int32) dX7_init_39 (by decide) ?_
  refine hj_newa (t := 2) (N := 6) (ty := .int) (6, .inl (fun _ => 0)) ac_int rfl (fun _ => rfl) (fun _ _ _ h1 h2 => Option.some.inj (h1.symm.trans h2)) (fun _ => rfl) (fun _ => rfl) (by decide) (by decide) (by decide) dX7_init_41 (Nat.le_of_ble_eq_true rfl) (Nat.le_of_ble_eq_true rfl) (fun q12 σ13 => ?_)
  refine hj_put fpX7_29 (fun _ => rfl) (fun _ => rfl) dX7_init_43 (fun σ14 _ => ?_)
  refine hj_aload_n 0 dX7_init_46 rfl ?_
  refine hj_bipush (6 : Int32) dX7_init_47 (by decide) ?_
  refine hj_newa (t := 2) (N := 6) (ty := .int) (6, .inl (fun _ => 0)) ac_int rfl (fun _ => rfl) (fun _ _ _ h1 h2 => Option.some.inj (h1.symm.trans h2)) (fun _ => rfl) (fun _ => rfl) (by decide) (by decide) (by decide) dX7_init_49 (Nat.le_of_ble_eq_true rfl) (Nat.le_of_ble_eq_true rfl) (fun q15 σ16 => ?_)
  refine hj_put fpX7_32 (fun _ => rfl) (fun _ => rfl) dX7_init_51 (fun σ17 _ => ?_)
  refine hj_aload_n 0 dX7_init_54 rfl ?_
  refine hj_bipush (6 : Int32) dX7_init_55 (by decide) ?_
  refine hj_newa (t := 2) (N := 6) (ty := .int) (6, .inl (fun _ => 0)) ac_int rfl (fun _ => rfl) (fun _ _ _ h1 h2 => Option.some.inj (h1.symm.trans h2)) (fun _ => rfl) (fun _ => rfl) (by decide) (by decide) (by decide) dX7_init_57 (Nat.le_of_ble_eq_true rfl) (Nat.le_of_ble_eq_true rfl) (fun q18 σ19 => ?_)
  refine hj_put fpX7_35 (fun _ => rfl) (fun _ => rfl) dX7_init_59 (fun σ20 _ => ?_)
  refine hj_aload_n 0 dX7_init_62 rfl ?_
  refine hj_bipush (6 : Int32) dX7_init_63 (by decide) ?_
  refine hj_newa (t := 4) (N := 6) (ty := .boolean) (6, .inl (fun _ => 0)) ac_boolean rfl (fun _ => rfl) (fun _ _ _ h1 h2 => Option.some.inj (h1.symm.trans h2)) (fun _ => rfl) (fun _ => rfl) (by decide) (by decide) (by decide) dX7_init_65 (Nat.le_of_ble_eq_true rfl) (Nat.le_of_ble_eq_true rfl) (fun q21 σ22 => ?_)
  refine hj_put fpX7_38 (fun _ => rfl) (fun _ => rfl) dX7_init_67 (fun σ23 _ => ?_)
  exact hj_vret dX7_init_70 rfl rfl (Nat.le_of_ble_eq_true rfl)
set_option maxRecDepth 20000 in
def fX1_init (a0 : Nat) (σ : Sto) : Option (Unit × Sto) := ((pV σ 1 a0 0 (.int ((0 : Int32)))).bind fun σ1 => (nw σ1 (.inl (7, 6, .inr (.inr (.inr (.inr (fun _ => none)))))) fun q2 σ3 => ((pV σ3 1 a0 1 (.ref q2)).bind fun σ4 => (nw σ4 (.inl (2, (6, .inl (fun _ => 0)))) fun q5 σ6 => ((pV σ6 1 a0 2 (.ref q5)).bind fun σ7 => (nw σ7 (.inl (2, (6, .inl (fun _ => 0)))) fun q8 σ9 => ((pV σ9 1 a0 3 (.ref q8)).bind fun σ10 => ((pV σ10 1 a0 4 (.int ((0 : Int32)))).bind fun σ11 => ((pV σ11 1 a0 5 (.int ((0 : Int32)))).bind fun σ12 => (nw σ12 (.inl (2, (6, .inl (fun _ => 0)))) fun q13 σ14 => ((pV σ14 1 a0 6 (.ref q13)).bind fun σ15 => (nw σ15 (.inl (2, (6, .inl (fun _ => 0)))) fun q16 σ17 => ((pV σ17 1 a0 7 (.ref q16)).bind fun σ18 => ((gR σ18 1 a0 1).bind fun t19 => (nw σ18 (.inr (7, [.int 0, .int 0, .null, .null, .null, .null, .null, .null, .null])) fun q20 σ21 => (cb (fX7_init q20 σ21) fun _ σ22 => ((sR σ22 7 7 t19 ((0 : Int32)) q20).bind fun σ23 => ((gR σ23 1 a0 1).bind fun t24 => (nw σ23 (.inr (7, [.int 0, .int 0, .null, .null, .null, .null, .null, .null, .null])) fun q25 σ26 => (cb (fX7_init q25 σ26) fun _ σ27 => ((sR σ27 7 7 t24 ((1 : Int32)) q25).bind fun σ28 => ((gR σ28 1 a0 1).bind fun t29 => (nw σ28 (.inr (7, [.int 0, .int 0, .null, .null, .null, .null, .null, .null, .null])) fun q30 σ31 => (cb (fX7_init q30 σ31) fun _ σ32 => ((sR σ32 7 7 t29 ((2 : Int32)) q30).bind fun σ33 => ((gR σ33 1 a0 1).bind fun t34 => (nw σ33 (.inr (7, [.int 0, .int 0, .null, .null, .null, .null, .null, .null, .null])) fun q35 σ36 => (cb (fX7_init q35 σ36) fun _ σ37 => ((sR σ37 7 7 t34 ((3 : Int32)) q35).bind fun σ38 => ((gR σ38 1 a0 1).bind fun t39 => (nw σ38 (.inr (7, [.int 0, .int 0, .null, .null, .null, .null, .null, .null, .null])) fun q40 σ41 => (cb (fX7_init q40 σ41) fun _ σ42 => ((sR σ42 7 7 t39 ((4 : Int32)) q40).bind fun σ43 => ((gR σ43 1 a0 1).bind fun t44 => (nw σ43 (.inr (7, [.int 0, .int 0, .null, .null, .null, .null, .null, .null, .null])) fun q45 σ46 => (cb (fX7_init q45 σ46) fun _ σ47 => ((sR σ47 7 7 t44 ((5 : Int32)) q45).bind fun σ48 => (some ((), σ48)))))))))))))))))))))))))))))))))))))))
set_option maxHeartbeats 8000000 in
set_option maxRecDepth 20000 in
theorem kX1_init (G : GP) (a0 : Nat) (σ : Sto) : Me G mX1_init 2 53 336 jV [.ref a0] σ (fX1_init a0 σ) := by
  refine hs_me (lv := [(0, .ref a0)]) (plainFor_of_name (by decide +kernel)) (Nat.le_of_ble_eq_true rfl) rfl ?_
  unfold fX1_init
  refine hj_aload_n 0 dX1_init_0 rfl ?_
  refine hj_oinit olX1_3 oo_i oo_c dX1_init_1 (Nat.le_of_ble_eq_true rfl) (Nat.le_of_ble_eq_true rfl) ?_
  refine hj_aload_n 0 dX1_init_4 rfl ?_
  refine hj_iconst (0 : Int32) dX1_init_5 (by decide) ?_
  refine hj_put (fpX1_9 _) (fun _ => rfl) (fun _ => rfl) dX1_init_6 (fun σ1 _ => ?_)
  refine hj_aload_n 0 dX1_init_9 rfl ?_
  refine hj_bipush (6 : Int32) dX1_init_10 (by decide) ?_
  refine hj_anew (t := 7) (N := 6) (C := RX7) clX1_15 (fun _ h => h.2.2) (fun _ => rfl) (by decide) (by decide) (by decide) dX1_init_12 (Nat.le_of_ble_eq_true rfl) (Nat.le_of_ble_eq_true rfl) (fun q2 σ3 => ?_)
  refine hj_put fpX1_17 (fun _ => rfl) (fun _ => rfl) dX1_init_15 (fun σ4 _ => ?_)
  refine hj_aload_n 0 dX1_init_18 rfl ?_
  refine hj_bipush (6 : Int32) dX1_init_19 (by decide) ?_
  refine hj_newa (t := 2) (N := 6) (ty := .int) (6, .inl (fun _ => 0)) ac_int rfl (fun _ => rfl) (fun _ _ _ h1 h2 => Option.some.inj (h1.symm.trans h2)) (fun _ => rfl) (fun _ => rfl) (by decide) (by decide) (by decide) dX1_init_21 (Nat.le_of_ble_eq_true rfl) (Nat.le_of_ble_eq_true rfl) (fun q5 σ6 => ?_)
  refine hj_put fpX1_21 (fun _ => rfl) (fun _ => rfl) dX1_init_23 (fun σ7 _ => ?_)
  refine hj_aload_n 0 dX1_init_26 rfl ?_
  refine hj_bipush (6 : Int32) dX1_init_27 (by decide) ?_
  refine hj_newa (t := 2) (N := 6) (ty := .int) (6, .inl (fun _ => 0)) ac_int rfl (fun _ => rfl) (fun _ _ _ h1 h2 => Option.some.inj (h1.symm.trans h2)) (fun _ => rfl) (fun _ => rfl) (by decide) (by decide) (by decide) dX1_init_29 (Nat.le_of_ble_eq_true rfl) (Nat.le_of_ble_eq_true rfl) (fun q8 σ9 => ?_)
  refine hj_put fpX1_25 (fun _ => rfl) (fun _ => rfl) dX1_init_31 (fun σ10 _ => ?_)
  refine hj_aload_n 0 dX1_init_34 rfl ?_
  refine hj_iconst (0 : Int32) dX1_init_35 (by decide) ?_
  refine hj_put (fpX1_28 _) (fun _ => rfl) (fun _ => rfl) dX1_init_36 (fun σ11 _ => ?_)
  refine hj_aload_n 0 dX1_init_39 rfl ?_
  refine hj_iconst (0 : Int32) dX1_init_40 (by decide) ?_
  refine hj_put (fpX1_31 _) (fun _ => rfl) (fun _ => rfl) dX1_init_41 (fun σ12 _ => ?_)
  refine hj_aload_n 0 dX1_init_44 rfl ?_
  refine hj_bipush (6 : Int32) dX1_init_45 (by decide) ?_
  refine hj_newa (t := 2) (N := 6) (ty := .int) (6, .inl (fun _ => 0)) ac_int rfl (fun _ => rfl) (fun _ _ _ h1 h2 => Option.some.inj (h1.symm.trans h2)) (fun _ => rfl) (fun _ => rfl) (by decide) (by decide) (by decide) dX1_init_47 (Nat.le_of_ble_eq_true rfl) (Nat.le_of_ble_eq_true rfl) (fun q13 σ14 => ?_)
  refine hj_put fpX1_34 (fun _ => rfl) (fun _ => rfl) dX1_init_49 (fun σ15 _ => ?_)
  refine hj_aload_n 0 dX1_init_52 rfl ?_
  refine hj_bipush (6 : Int32) dX1_init_53 (by decide) ?_
  refine hj_newa (t := 2) (N := 6) (ty := .int) (6, .inl (fun _ => 0)) ac_int rfl (fun _ => rfl) (fun _ _ _ h1 h2 => Option.some.inj (h1.symm.trans h2)) (fun _ => rfl) (fun _ => rfl) (by decide) (by decide) (by decide) dX1_init_55 (Nat.le_of_ble_eq_true rfl) (Nat.le_of_ble_eq_true rfl) (fun q16 σ17 => ?_)
  refine hj_put fpX1_37 (fun _ => rfl) (fun _ => rfl) dX1_init_57 (fun σ18 _ => ?_)
  refine hj_iconst (0 : Int32) dX1_init_60 (by decide) ?_
  refine hj_istore_n (lv' := [(0, .ref a0), (1, .int (0 : Int32))]) dX1_init_61 (by decide) [1, 0] rfl ?_
  refine hj_iload_n 1 dX1_init_62 rfl ?_
  refine hj_bipush (6 : Int32) dX1_init_63 (by decide) ?_
  refine hj_icmp_ge_F 87 dX1_init_65 (by decide) (by decide) ?_
  refine hj_aload_n 0 dX1_init_68 rfl ?_
  refine hj_getR flX1_17 dX1_init_69 (fun t19 _ => ?_)
  refine hj_iload_n 1 dX1_init_72 rfl ?_
  refine hj_new [.int 0, .int 0, .null, .null, .null, .null, .null, .null, .null] tyX7 clX1_15 itX7 izX7 rfl cfX7 tyX7_ok (by decide +kernel) (fun _ => rfl) dX1_init_73 (Nat.le_of_ble_eq_true rfl) (Nat.le_of_ble_eq_true rfl) (fun q20 σ21 => ?_)
  refine hj_dup dX1_init_76 rfl ?_
  refine hj_callI (M' := mX7_init) (h' := 1) (mc' := 7) (ms' := 42) (As := []) mfX7_init miX7_init rfl rfl mlX1_40 dX1_init_77 (kX7_init G _ _) ⟨Nat.le_of_ble_eq_true rfl, Nat.le_of_ble_eq_true rfl⟩ ⟨Nat.le_of_ble_eq_true rfl, Nat.le_of_ble_eq_true rfl⟩ rfl (Nat.le_of_ble_eq_true rfl) (fun _ σ22 _ => ?_)
  refine hj_aast7 dX1_init_80 (fun σ23 _ => ?_)
  refine hj_iincK (lv' := [(0, .ref a0), (1, .int (1 : Int32))]) 1 (1 : Int32) dX1_init_81 rfl (by decide) (by decide) [1, 0] rfl ?_
  refine hj_goto 62 dX1_init_84 (by decide) ?_
  refine hj_iload_n 1 dX1_init_62 rfl ?_
  refine hj_bipush (6 : Int32) dX1_init_63 (by decide) ?_
  refine hj_icmp_ge_F 87 dX1_init_65 (by decide) (by decide) ?_
  refine hj_aload_n 0 dX1_init_68 rfl ?_
  refine hj_getR flX1_17 dX1_init_69 (fun t24 _ => ?_)
  refine hj_iload_n 1 dX1_init_72 rfl ?_
  refine hj_new [.int 0, .int 0, .null, .null, .null, .null, .null, .null, .null] tyX7 clX1_15 itX7 izX7 rfl cfX7 tyX7_ok (by decide +kernel) (fun _ => rfl) dX1_init_73 (Nat.le_of_ble_eq_true rfl) (Nat.le_of_ble_eq_true rfl) (fun q25 σ26 => ?_)
  refine hj_dup dX1_init_76 rfl ?_
  refine hj_callI (M' := mX7_init) (h' := 1) (mc' := 7) (ms' := 42) (As := []) mfX7_init miX7_init rfl rfl mlX1_40 dX1_init_77 (kX7_init G _ _) ⟨Nat.le_of_ble_eq_true rfl, Nat.le_of_ble_eq_true rfl⟩ ⟨Nat.le_of_ble_eq_true rfl, Nat.le_of_ble_eq_true rfl⟩ rfl (Nat.le_of_ble_eq_true rfl) (fun _ σ27 _ => ?_)
  refine hj_aast7 dX1_init_80 (fun σ28 _ => ?_)
  refine hj_iincK (lv' := [(0, .ref a0), (1, .int (2 : Int32))]) 1 (2 : Int32) dX1_init_81 rfl (by decide) (by decide) [1, 0] rfl ?_
  refine hj_goto 62 dX1_init_84 (by decide) ?_
  refine hj_iload_n 1 dX1_init_62 rfl ?_
  refine hj_bipush (6 : Int32) dX1_init_63 (by decide) ?_
  refine hj_icmp_ge_F 87 dX1_init_65 (by decide) (by decide) ?_
  refine hj_aload_n 0 dX1_init_68 rfl ?_
  refine hj_getR flX1_17 dX1_init_69 (fun t29 _ => ?_)
  refine hj_iload_n 1 dX1_init_72 rfl ?_
  refine hj_new [.int 0, .int 0, .null, .null, .null, .null, .null, .null, .null] tyX7 clX1_15 itX7 izX7 rfl cfX7 tyX7_ok (by decide +kernel) (fun _ => rfl) dX1_init_73 (Nat.le_of_ble_eq_true rfl) (Nat.le_of_ble_eq_true rfl) (fun q30 σ31 => ?_)
  refine hj_dup dX1_init_76 rfl ?_
  refine hj_callI (M' := mX7_init) (h' := 1) (mc' := 7) (ms' := 42) (As := []) mfX7_init miX7_init rfl rfl mlX1_40 dX1_init_77 (kX7_init G _ _) ⟨Nat.le_of_ble_eq_true rfl, Nat.le_of_ble_eq_true rfl⟩ ⟨Nat.le_of_ble_eq_true rfl, Nat.le_of_ble_eq_true rfl⟩ rfl (Nat.le_of_ble_eq_true rfl) (fun _ σ32 _ => ?_)
  refine hj_aast7 dX1_init_80 (fun σ33 _ => ?_)
  refine hj_iincK (lv' := [(0, .ref a0), (1, .int (3 : Int32))]) 1 (3 : Int32) dX1_init_81 rfl (by decide) (by decide) [1, 0] rfl ?_
  refine hj_goto 62 dX1_init_84 (by decide) ?_
  refine hj_iload_n 1 dX1_init_62 rfl ?_
  refine hj_bipush (6 : Int32) dX1_init_63 (by decide) ?_
  refine hj_icmp_ge_F 87 dX1_init_65 (by decide) (by decide) ?_
  refine hj_aload_n 0 dX1_init_68 rfl ?_
  refine hj_getR flX1_17 dX1_init_69 (fun t34 _ => ?_)
  refine hj_iload_n 1 dX1_init_72 rfl ?_
  refine hj_new [.int 0, .int 0, .null, .null, .null, .null, .null, .null, .null] tyX7 clX1_15 itX7 izX7 rfl cfX7 tyX7_ok (by decide +kernel) (fun _ => rfl) dX1_init_73 (Nat.le_of_ble_eq_true rfl) (Nat.le_of_ble_eq_true rfl) (fun q35 σ36 => ?_)
  refine hj_dup dX1_init_76 rfl ?_
  refine hj_callI (M' := mX7_init) (h' := 1) (mc' := 7) (ms' := 42) (As := []) mfX7_init miX7_init rfl rfl mlX1_40 dX1_init_77 (kX7_init G _ _) ⟨Nat.le_of_ble_eq_true rfl, Nat.le_of_ble_eq_true rfl⟩ ⟨Nat.le_of_ble_eq_true rfl, Nat.le_of_ble_eq_true rfl⟩ rfl (Nat.le_of_ble_eq_true rfl) (fun _ σ37 _ => ?_)
  refine hj_aast7 dX1_init_80 (fun σ38 _ => ?_)
  refine hj_iincK (lv' := [(0, .ref a0), (1, .int (4 : Int32))]) 1 (4 : Int32) dX1_init_81 rfl (by decide) (by decide) [1, 0] rfl ?_
  refine hj_goto 62 dX1_init_84 (by decide) ?_
  refine hj_iload_n 1 dX1_init_62 rfl ?_
  refine hj_bipush (6 : Int32) dX1_init_63 (by decide) ?_
  refine hj_icmp_ge_F 87 dX1_init_65 (by decide) (by decide) ?_
  refine hj_aload_n 0 dX1_init_68 rfl ?_
  refine hj_getR flX1_17 dX1_init_69 (fun t39 _ => ?_)
  refine hj_iload_n 1 dX1_init_72 rfl ?_
  refine hj_new [.int 0, .int 0, .null, .null, .null, .null, .null, .null, .null] tyX7 clX1_15 itX7 izX7 rfl cfX7 tyX7_ok (by decide +kernel) (fun _ => rfl) dX1_init_73 (Nat.le_of_ble_eq_true rfl) (Nat.le_of_ble_eq_true rfl) (fun q40 σ41 => ?_)
  refine hj_dup dX1_init_76 rfl ?_
  refine hj_callI (M' := mX7_init) (h' := 1) (mc' := 7) (ms' := 42) (As := []) mfX7_init miX7_init rfl rfl mlX1_40 dX1_init_77 (kX7_init G _ _) ⟨Nat.le_of_ble_eq_true rfl, Nat.le_of_ble_eq_true rfl⟩ ⟨Nat.le_of_ble_eq_true rfl, Nat.le_of_ble_eq_true rfl⟩ rfl (Nat.le_of_ble_eq_true rfl) (fun _ σ42 _ => ?_)
  refine hj_aast7 dX1_init_80 (fun σ43 _ => ?_)
  refine hj_iincK (lv' := [(0, .ref a0), (1, .int (5 : Int32))]) 1 (5 : Int32) dX1_init_81 rfl (by decide) (by decide) [1, 0] rfl ?_
  refine hj_goto 62 dX1_init_84 (by decide) ?_
  refine hj_iload_n 1 dX1_init_62 rfl ?_
  refine hj_bipush (6 : Int32) dX1_init_63 (by decide) ?_
  refine hj_icmp_ge_F 87 dX1_init_65 (by decide) (by decide) ?_
  refine hj_aload_n 0 dX1_init_68 rfl ?_
  refine hj_getR flX1_17 dX1_init_69 (fun t44 _ => ?_)
  refine hj_iload_n 1 dX1_init_72 rfl ?_
  refine hj_new [.int 0, .int 0, .null, .null, .null, .null, .null, .null, .null] tyX7 clX1_15 itX7 izX7 rfl cfX7 tyX7_ok (by decide +kernel) (fun _ => rfl) dX1_init_73 (Nat.le_of_ble_eq_true rfl) (Nat.le_of_ble_eq_true rfl) (fun q45 σ46 => ?_)
  refine hj_dup dX1_init_76 rfl ?_
  refine hj_callI (M' := mX7_init) (h' := 1) (mc' := 7) (ms' := 42) (As := []) mfX7_init miX7_init rfl rfl mlX1_40 dX1_init_77 (kX7_init G _ _) ⟨Nat.le_of_ble_eq_true rfl, Nat.le_of_ble_eq_true rfl⟩ ⟨Nat.le_of_ble_eq_true rfl, Nat.le_of_ble_eq_true rfl⟩ rfl (Nat.le_of_ble_eq_true rfl) (fun _ σ47 _ => ?_)
  refine hj_aast7 dX1_init_80 (fun σ48 _ => ?_)
  refine hj_iincK (lv' := [(0, .ref a0), (1, .int (6 : Int32))]) 1 (6 : Int32) dX1_init_81 rfl (by decide) (by decide) [1, 0] rfl ?_
  refine hj_goto 62 dX1_init_84 (by decide) ?_
  refine hj_iload_n 1 dX1_init_62 rfl ?_
  refine hj_bipush (6 : Int32) dX1_init_63 (by decide) ?_
  refine hj_icmp_ge_T 87 dX1_init_65 (by decide) (by decide) ?_
  exact hj_vret dX1_init_87 rfl rfl (Nat.le_of_ble_eq_true rfl)
set_option maxRecDepth 20000 in
def fX6_init (a0 : Nat) (σ : Sto) : Option (Unit × Sto) := ((pV σ 6 a0 0 (.long ((0 : Int64)))).bind fun σ1 => ((pV σ1 6 a0 1 (.long ((1 : Int64)))).bind fun σ2 => (some ((), σ2))))
set_option maxHeartbeats 8000000 in
set_option maxRecDepth 20000 in
theorem kX6_init (G : GP) (a0 : Nat) (σ : Sto) : Me G mX6_init 1 0 0 jV [.ref a0] σ (fX6_init a0 σ) := by
  refine hs_me (lv := [(0, .ref a0)]) (plainFor_of_name (by decide +kernel)) (Nat.le_of_ble_eq_true rfl) rfl ?_
  unfold fX6_init
  refine hj_aload_n 0 dX6_init_0 rfl ?_
  refine hj_oinit olX6_1 oo_i oo_c dX6_init_1 (Nat.le_of_ble_eq_true rfl) (Nat.le_of_ble_eq_true rfl) ?_
  refine hj_aload_n 0 dX6_init_4 rfl ?_
  refine hj_lconst (0 : Int64) dX6_init_5 (by decide) ?_
  refine hj_put (fpX6_7 _) (fun _ => rfl) (fun _ => rfl) dX6_init_6 (fun σ1 _ => ?_)
  refine hj_aload_n 0 dX6_init_9 rfl ?_
  refine hj_lconst (1 : Int64) dX6_init_10 (by decide) ?_
  refine hj_put (fpX6_13 _) (fun _ => rfl) (fun _ => rfl) dX6_init_11 (fun σ2 _ => ?_)
  exact hj_vret dX6_init_14 rfl rfl (Nat.le_of_ble_eq_true rfl)
set_option maxRecDepth 20000 in
def fX2_init (a0 : Nat) (σ : Sto) : Option (Unit × Sto) := (nw σ (.inl (6, 64, .inr (.inr (.inr (.inr (fun _ => none)))))) fun q1 σ2 => ((pV σ2 2 a0 0 (.ref q1)).bind fun σ3 => (nw σ3 (.inl (2, (64, .inl (fun _ => 0)))) fun q4 σ5 => ((pV σ5 2 a0 1 (.ref q4)).bind fun σ6 => (nw σ6 (.inr (6, [.long 0, .long 0])) fun q7 σ8 => (cb (fX6_init q7 σ8) fun _ σ9 => ((pV σ9 2 a0 2 (.ref q7)).bind fun σ10 => ((gR σ10 2 a0 0).bind fun t11 => (nw σ10 (.inr (6, [.long 0, .long 0])) fun q12 σ13 => (cb (fX6_init q12 σ13) fun _ σ14 => ((sR σ14 6 6 t11 ((0 : Int32)) q12).bind fun σ15 => ((gR σ15 2 a0 0).bind fun t16 => (nw σ15 (.inr (6, [.long 0, .long 0])) fun q17 σ18 => (cb (fX6_init q17 σ18) fun _ σ19 => ((sR σ19 6 6 t16 ((1 : Int32)) q17).bind fun σ20 => ((gR σ20 2 a0 0).bind fun t21 => (nw σ20 (.inr (6, [.long 0, .long 0])) fun q22 σ23 => (cb (fX6_init q22 σ23) fun _ σ24 => ((sR σ24 6 6 t21 ((2 : Int32)) q22).bind fun σ25 => ((gR σ25 2 a0 0).bind fun t26 => (nw σ25 (.inr (6, [.long 0, .long 0])) fun q27 σ28 => (cb (fX6_init q27 σ28) fun _ σ29 => ((sR σ29 6 6 t26 ((3 : Int32)) q27).bind fun σ30 => ((gR σ30 2 a0 0).bind fun t31 => (nw σ30 (.inr (6, [.long 0, .long 0])) fun q32 σ33 => (cb (fX6_init q32 σ33) fun _ σ34 => ((sR σ34 6 6 t31 ((4 : Int32)) q32).bind fun σ35 => ((gR σ35 2 a0 0).bind fun t36 => (nw σ35 (.inr (6, [.long 0, .long 0])) fun q37 σ38 => (cb (fX6_init q37 σ38) fun _ σ39 => ((sR σ39 6 6 t36 ((5 : Int32)) q37).bind fun σ40 => ((gR σ40 2 a0 0).bind fun t41 => (nw σ40 (.inr (6, [.long 0, .long 0])) fun q42 σ43 => (cb (fX6_init q42 σ43) fun _ σ44 => ((sR σ44 6 6 t41 ((6 : Int32)) q42).bind fun σ45 => ((gR σ45 2 a0 0).bind fun t46 => (nw σ45 (.inr (6, [.long 0, .long 0])) fun q47 σ48 => (cb (fX6_init q47 σ48) fun _ σ49 => ((sR σ49 6 6 t46 ((7 : Int32)) q47).bind fun σ50 => ((gR σ50 2 a0 0).bind fun t51 => (nw σ50 (.inr (6, [.long 0, .long 0])) fun q52 σ53 => (cb (fX6_init q52 σ53) fun _ σ54 => ((sR σ54 6 6 t51 ((8 : Int32)) q52).bind fun σ55 => ((gR σ55 2 a0 0).bind fun t56 => (nw σ55 (.inr (6, [.long 0, .long 0])) fun q57 σ58 => (cb (fX6_init q57 σ58) fun _ σ59 => ((sR σ59 6 6 t56 ((9 : Int32)) q57).bind fun σ60 => ((gR σ60 2 a0 0).bind fun t61 => (nw σ60 (.inr (6, [.long 0, .long 0])) fun q62 σ63 => (cb (fX6_init q62 σ63) fun _ σ64 => ((sR σ64 6 6 t61 ((10 : Int32)) q62).bind fun σ65 => ((gR σ65 2 a0 0).bind fun t66 => (nw σ65 (.inr (6, [.long 0, .long 0])) fun q67 σ68 => (cb (fX6_init q67 σ68) fun _ σ69 => ((sR σ69 6 6 t66 ((11 : Int32)) q67).bind fun σ70 => ((gR σ70 2 a0 0).bind fun t71 => (nw σ70 (.inr (6, [.long 0, .long 0])) fun q72 σ73 => (cb (fX6_init q72 σ73) fun _ σ74 => ((sR σ74 6 6 t71 ((12 : Int32)) q72).bind fun σ75 => ((gR σ75 2 a0 0).bind fun t76 => (nw σ75 (.inr (6, [.long 0, .long 0])) fun q77 σ78 => (cb (fX6_init q77 σ78) fun _ σ79 => ((sR σ79 6 6 t76 ((13 : Int32)) q77).bind fun σ80 => ((gR σ80 2 a0 0).bind fun t81 => (nw σ80 (.inr (6, [.long 0, .long 0])) fun q82 σ83 => (cb (fX6_init q82 σ83) fun _ σ84 => ((sR σ84 6 6 t81 ((14 : Int32)) q82).bind fun σ85 => ((gR σ85 2 a0 0).bind fun t86 => (nw σ85 (.inr (6, [.long 0, .long 0])) fun q87 σ88 => (cb (fX6_init q87 σ88) fun _ σ89 => ((sR σ89 6 6 t86 ((15 : Int32)) q87).bind fun σ90 => ((gR σ90 2 a0 0).bind fun t91 => (nw σ90 (.inr (6, [.long 0, .long 0])) fun q92 σ93 => (cb (fX6_init q92 σ93) fun _ σ94 => ((sR σ94 6 6 t91 ((16 : Int32)) q92).bind fun σ95 => ((gR σ95 2 a0 0).bind fun t96 => (nw σ95 (.inr (6, [.long 0, .long 0])) fun q97 σ98 => (cb (fX6_init q97 σ98) fun _ σ99 => ((sR σ99 6 6 t96 ((17 : Int32)) q97).bind fun σ100 => ((gR σ100 2 a0 0).bind fun t101 => (nw σ100 (.inr (6, [.long 0, .long 0])) fun q102 σ103 => (cb (fX6_init q102 σ103) fun _ σ104 => ((sR σ104 6 6 t101 ((18 : Int32)) q102).bind fun σ105 => ((gR σ105 2 a0 0).bind fun t106 => (nw σ105 (.inr (6, [.long 0, .long 0])) fun q107 σ108 => (cb (fX6_init q107 σ108) fun _ σ109 => ((sR σ109 6 6 t106 ((19 : Int32)) q107).bind fun σ110 => ((gR σ110 2 a0 0).bind fun t111 => (nw σ110 (.inr (6, [.long 0, .long 0])) fun q112 σ113 => (cb (fX6_init q112 σ113) fun _ σ114 => ((sR σ114 6 6 t111 ((20 : Int32)) q112).bind fun σ115 => ((gR σ115 2 a0 0).bind fun t116 => (nw σ115 (.inr (6, [.long 0, .long 0])) fun q117 σ118 => (cb (fX6_init q117 σ118) fun _ σ119 => ((sR σ119 6 6 t116 ((21 : Int32)) q117).bind fun σ120 => ((gR σ120 2 a0 0).bind fun t121 => (nw σ120 (.inr (6, [.long 0, .long 0])) fun q122 σ123 => (cb (fX6_init q122 σ123) fun _ σ124 => ((sR σ124 6 6 t121 ((22 : Int32)) q122).bind fun σ125 => ((gR σ125 2 a0 0).bind fun t126 => (nw σ125 (.inr (6, [.long 0, .long 0])) fun q127 σ128 => (cb (fX6_init q127 σ128) fun _ σ129 => ((sR σ129 6 6 t126 ((23 : Int32)) q127).bind fun σ130 => ((gR σ130 2 a0 0).bind fun t131 => (nw σ130 (.inr (6, [.long 0, .long 0])) fun q132 σ133 => (cb (fX6_init q132 σ133) fun _ σ134 => ((sR σ134 6 6 t131 ((24 : Int32)) q132).bind fun σ135 => ((gR σ135 2 a0 0).bind fun t136 => (nw σ135 (.inr (6, [.long 0, .long 0])) fun q137 σ138 => (cb (fX6_init q137 σ138) fun _ σ139 => ((sR σ139 6 6 t136 ((25 : Int32)) q137).bind fun σ140 => ((gR σ140 2 a0 0).bind fun t141 => (nw σ140 (.inr (6, [.long 0, .long 0])) fun q142 σ143 => (cb (fX6_init q142 σ143) fun _ σ144 => ((sR σ144 6 6 t141 ((26 : Int32)) q142).bind fun σ145 => ((gR σ145 2 a0 0).bind fun t146 => (nw σ145 (.inr (6, [.long 0, .long 0])) fun q147 σ148 => (cb (fX6_init q147 σ148) fun _ σ149 => ((sR σ149 6 6 t146 ((27 : Int32)) q147).bind fun σ150 => ((gR σ150 2 a0 0).bind fun t151 => (nw σ150 (.inr (6, [.long 0, .long 0])) fun q152 σ153 => (cb (fX6_init q152 σ153) fun _ σ154 => ((sR σ154 6 6 t151 ((28 : Int32)) q152).bind fun σ155 => ((gR σ155 2 a0 0).bind fun t156 => (nw σ155 (.inr (6, [.long 0, .long 0])) fun q157 σ158 => (cb (fX6_init q157 σ158) fun _ σ159 => ((sR σ159 6 6 t156 ((29 : Int32)) q157).bind fun σ160 => ((gR σ160 2 a0 0).bind fun t161 => (nw σ160 (.inr (6, [.long 0, .long 0])) fun q162 σ163 => (cb (fX6_init q162 σ163) fun _ σ164 => ((sR σ164 6 6 t161 ((30 : Int32)) q162).bind fun σ165 => ((gR σ165 2 a0 0).bind fun t166 => (nw σ165 (.inr (6, [.long 0, .long 0])) fun q167 σ168 => (cb (fX6_init q167 σ168) fun _ σ169 => ((sR σ169 6 6 t166 ((31 : Int32)) q167).bind fun σ170 => ((gR σ170 2 a0 0).bind fun t171 => (nw σ170 (.inr (6, [.long 0, .long 0])) fun q172 σ173 => (cb (fX6_init q172 σ173) fun _ σ174 => ((sR σ174 6 6 t171 ((32 : Int32)) q172).bind fun σ175 => ((gR σ175 2 a0 0).bind fun t176 => (nw σ175 (.inr (6, [.long 0, .long 0])) fun q177 σ178 => (cb (fX6_init q177 σ178) fun _ σ179 => ((sR σ179 6 6 t176 ((33 : Int32)) q177).bind fun σ180 => ((gR σ180 2 a0 0).bind fun t181 => (nw σ180 (.inr (6, [.long 0, .long 0])) fun q182 σ183 => (cb (fX6_init q182 σ183) fun _ σ184 => ((sR σ184 6 6 t181 ((34 : Int32)) q182).bind fun σ185 => ((gR σ185 2 a0 0).bind fun t186 => (nw σ185 (.inr (6, [.long 0, .long 0])) fun q187 σ188 => (cb (fX6_init q187 σ188) fun _ σ189 => ((sR σ189 6 6 t186 ((35 : Int32)) q187).bind fun σ190 => ((gR σ190 2 a0 0).bind fun t191 => (nw σ190 (.inr (6, [.long 0, .long 0])) fun q192 σ193 => (cb (fX6_init q192 σ193) fun _ σ194 => ((sR σ194 6 6 t191 ((36 : Int32)) q192).bind fun σ195 => ((gR σ195 2 a0 0).bind fun t196 => (nw σ195 (.inr (6, [.long 0, .long 0])) fun q197 σ198 => (cb (fX6_init q197 σ198) fun _ σ199 => ((sR σ199 6 6 t196 ((37 : Int32)) q197).bind fun σ200 => ((gR σ200 2 a0 0).bind fun t201 => (nw σ200 (.inr (6, [.long 0, .long 0])) fun q202 σ203 => (cb (fX6_init q202 σ203) fun _ σ204 => ((sR σ204 6 6 t201 ((38 : Int32)) q202).bind fun σ205 => ((gR σ205 2 a0 0).bind fun t206 => (nw σ205 (.inr (6, [.long 0, .long 0])) fun q207 σ208 => (cb (fX6_init q207 σ208) fun _ σ209 => ((sR σ209 6 6 t206 ((39 : Int32)) q207).bind fun σ210 => ((gR σ210 2 a0 0).bind fun t211 => (nw σ210 (.inr (6, [.long 0, .long 0])) fun q212 σ213 => (cb (fX6_init q212 σ213) fun _ σ214 => ((sR σ214 6 6 t211 ((40 : Int32)) q212).bind fun σ215 => ((gR σ215 2 a0 0).bind fun t216 => (nw σ215 (.inr (6, [.long 0, .long 0])) fun q217 σ218 => (cb (fX6_init q217 σ218) fun _ σ219 => ((sR σ219 6 6 t216 ((41 : Int32)) q217).bind fun σ220 => ((gR σ220 2 a0 0).bind fun t221 => (nw σ220 (.inr (6, [.long 0, .long 0])) fun q222 σ223 => (cb (fX6_init q222 σ223) fun _ σ224 => ((sR σ224 6 6 t221 ((42 : Int32)) q222).bind fun σ225 => ((gR σ225 2 a0 0).bind fun t226 => (nw σ225 (.inr (6, [.long 0, .long 0])) fun q227 σ228 => (cb (fX6_init q227 σ228) fun _ σ229 => ((sR σ229 6 6 t226 ((43 : Int32)) q227).bind fun σ230 => ((gR σ230 2 a0 0).bind fun t231 => (nw σ230 (.inr (6, [.long 0, .long 0])) fun q232 σ233 => (cb (fX6_init q232 σ233) fun _ σ234 => ((sR σ234 6 6 t231 ((44 : Int32)) q232).bind fun σ235 => ((gR σ235 2 a0 0).bind fun t236 => (nw σ235 (.inr (6, [.long 0, .long 0])) fun q237 σ238 => (cb (fX6_init q237 σ238) fun _ σ239 => ((sR σ239 6 6 t236 ((45 : Int32)) q237).bind fun σ240 => ((gR σ240 2 a0 0).bind fun t241 => (nw σ240 (.inr (6, [.long 0, .long 0])) fun q242 σ243 => (cb (fX6_init q242 σ243) fun _ σ244 => ((sR σ244 6 6 t241 ((46 : Int32)) q242).bind fun σ245 => ((gR σ245 2 a0 0).bind fun t246 => (nw σ245 (.inr (6, [.long 0, .long 0])) fun q247 σ248 => (cb (fX6_init q247 σ248) fun _ σ249 => ((sR σ249 6 6 t246 ((47 : Int32)) q247).bind fun σ250 => ((gR σ250 2 a0 0).bind fun t251 => (nw σ250 (.inr (6, [.long 0, .long 0])) fun q252 σ253 => (cb (fX6_init q252 σ253) fun _ σ254 => ((sR σ254 6 6 t251 ((48 : Int32)) q252).bind fun σ255 => ((gR σ255 2 a0 0).bind fun t256 => (nw σ255 (.inr (6, [.long 0, .long 0])) fun q257 σ258 => (cb (fX6_init q257 σ258) fun _ σ259 => ((sR σ259 6 6 t256 ((49 : Int32)) q257).bind fun σ260 => ((gR σ260 2 a0 0).bind fun t261 => (nw σ260 (.inr (6, [.long 0, .long 0])) fun q262 σ263 => (cb (fX6_init q262 σ263) fun _ σ264 => ((sR σ264 6 6 t261 ((50 : Int32)) q262).bind fun σ265 => ((gR σ265 2 a0 0).bind fun t266 => (nw σ265 (.inr (6, [.long 0, .long 0])) fun q267 σ268 => (cb (fX6_init q267 σ268) fun _ σ269 => ((sR σ269 6 6 t266 ((51 : Int32)) q267).bind fun σ270 => ((gR σ270 2 a0 0).bind fun t271 => (nw σ270 (.inr (6, [.long 0, .long 0])) fun q272 σ273 => (cb (fX6_init q272 σ273) fun _ σ274 => ((sR σ274 6 6 t271 ((52 : Int32)) q272).bind fun σ275 => ((gR σ275 2 a0 0).bind fun t276 => (nw σ275 (.inr (6, [.long 0, .long 0])) fun q277 σ278 => (cb (fX6_init q277 σ278) fun _ σ279 => ((sR σ279 6 6 t276 ((53 : Int32)) q277).bind fun σ280 => ((gR σ280 2 a0 0).bind fun t281 => (nw σ280 (.inr (6, [.long 0, .long 0])) fun q282 σ283 => (cb (fX6_init q282 σ283) fun _ σ284 => ((sR σ284 6 6 t281 ((54 : Int32)) q282).bind fun σ285 => ((gR σ285 2 a0 0).bind fun t286 => (nw σ285 (.inr (6, [.long 0, .long 0])) fun q287 σ288 => (cb (fX6_init q287 σ288) fun _ σ289 => ((sR σ289 6 6 t286 ((55 : Int32)) q287).bind fun σ290 => ((gR σ290 2 a0 0).bind fun t291 => (nw σ290 (.inr (6, [.long 0, .long 0])) fun q292 σ293 => (cb (fX6_init q292 σ293) fun _ σ294 => ((sR σ294 6 6 t291 ((56 : Int32)) q292).bind fun σ295 => ((gR σ295 2 a0 0).bind fun t296 => (nw σ295 (.inr (6, [.long 0, .long 0])) fun q297 σ298 => (cb (fX6_init q297 σ298) fun _ σ299 => ((sR σ299 6 6 t296 ((57 : Int32)) q297).bind fun σ300 => ((gR σ300 2 a0 0).bind fun t301 => (nw σ300 (.inr (6, [.long 0, .long 0])) fun q302 σ303 => (cb (fX6_init q302 σ303) fun _ σ304 => ((sR σ304 6 6 t301 ((58 : Int32)) q302).bind fun σ305 => ((gR σ305 2 a0 0).bind fun t306 => (nw σ305 (.inr (6, [.long 0, .long 0])) fun q307 σ308 => (cb (fX6_init q307 σ308) fun _ σ309 => ((sR σ309 6 6 t306 ((59 : Int32)) q307).bind fun σ310 => ((gR σ310 2 a0 0).bind fun t311 => (nw σ310 (.inr (6, [.long 0, .long 0])) fun q312 σ313 => (cb (fX6_init q312 σ313) fun _ σ314 => ((sR σ314 6 6 t311 ((60 : Int32)) q312).bind fun σ315 => ((gR σ315 2 a0 0).bind fun t316 => (nw σ315 (.inr (6, [.long 0, .long 0])) fun q317 σ318 => (cb (fX6_init q317 σ318) fun _ σ319 => ((sR σ319 6 6 t316 ((61 : Int32)) q317).bind fun σ320 => ((gR σ320 2 a0 0).bind fun t321 => (nw σ320 (.inr (6, [.long 0, .long 0])) fun q322 σ323 => (cb (fX6_init q322 σ323) fun _ σ324 => ((sR σ324 6 6 t321 ((62 : Int32)) q322).bind fun σ325 => ((gR σ325 2 a0 0).bind fun t326 => (nw σ325 (.inr (6, [.long 0, .long 0])) fun q327 σ328 => (cb (fX6_init q327 σ328) fun _ σ329 => ((sR σ329 6 6 t326 ((63 : Int32)) q327).bind fun σ330 => (some ((), σ330)))))))))))))))))))))))))))))))))))))))))))))))))))))))))))))))))))))))))))))))))))))))))))))))))))))))))))))))))))))))))))))))))))))))))))))))))))))))))))))))))))))))))))))))))))))))))))))))))))))))))))))))))))))))))))))))))))))))))))))))))))))))))))))))))))))))))
set_option maxHeartbeats 8000000 in
set_option maxRecDepth 20000 in
theorem kX2_init (G : GP) (a0 : Nat) (σ : Sto) : Me G mX2_init 2 67 258 jV [.ref a0] σ (fX2_init a0 σ) := by
  refine hs_me (lv := [(0, .ref a0)]) (plainFor_of_name (by decide +kernel)) (Nat.le_of_ble_eq_true rfl) rfl ?_
  unfold fX2_init
  refine hj_aload_n 0 dX2_init_0 rfl ?_
  refine hj_oinit olX2_3 oo_i oo_c dX2_init_1 (Nat.le_of_ble_eq_true rfl) (Nat.le_of_ble_eq_true rfl) ?_
  refine hj_aload_n 0 dX2_init_4 rfl ?_
  refine hj_bipush (64 : Int32) dX2_init_5 (by decide) ?_
  refine hj_anew (t := 6) (N := 64) (C := RX6) clX2_9 (fun _ h => h.2.1) (fun _ => rfl) (by decide) (by decide) (by decide) dX2_init_7 (Nat.le_of_ble_eq_true rfl) (Nat.le_of_ble_eq_true rfl) (fun q1 σ2 => ?_)
  refine hj_put fpX2_11 (fun _ => rfl) (fun _ => rfl) dX2_init_10 (fun σ3 _ => ?_)
  refine hj_aload_n 0 dX2_init_13 rfl ?_
  refine hj_bipush (64 : Int32) dX2_init_14 (by decide) ?_
  refine hj_newa (t := 2) (N := 64) (ty := .int) (64, .inl (fun _ => 0)) ac_int rfl (fun _ => rfl) (fun _ _ _ h1 h2 => Option.some.inj (h1.symm.trans h2)) (fun _ => rfl) (fun _ => rfl) (by decide) (by decide) (by decide) dX2_init_16 (Nat.le_of_ble_eq_true rfl) (Nat.le_of_ble_eq_true rfl) (fun q4 σ5 => ?_)
  refine hj_put fpX2_17 (fun _ => rfl) (fun _ => rfl) dX2_init_18 (fun σ6 _ => ?_)
  refine hj_aload_n 0 dX2_init_21 rfl ?_
  refine hj_new [.long 0, .long 0] tyX6 clX2_9 itX6 izX6 rfl cfX6 tyX6_ok (by decide +kernel) (fun _ => rfl) dX2_init_22 (Nat.le_of_ble_eq_true rfl) (Nat.le_of_ble_eq_true rfl) (fun q7 σ8 => ?_)
  refine hj_dup dX2_init_25 rfl ?_
  refine hj_callI (M' := mX6_init) (h' := 1) (mc' := 0) (ms' := 0) (As := []) mfX6_init miX6_init rfl rfl mlX2_21 dX2_init_26 (kX6_init G _ _) ⟨Nat.le_of_ble_eq_true rfl, Nat.le_of_ble_eq_true rfl⟩ ⟨Nat.le_of_ble_eq_true rfl, Nat.le_of_ble_eq_true rfl⟩ rfl (Nat.le_of_ble_eq_true rfl) (fun _ σ9 _ => ?_)
  refine hj_put fpX2_22 (fun _ => rfl) (fun _ => rfl) dX2_init_29 (fun σ10 _ => ?_)
  refine hj_iconst (0 : Int32) dX2_init_32 (by decide) ?_
  refine hj_istore_n (lv' := [(0, .ref a0), (1, .int (0 : Int32))]) dX2_init_33 (by decide) [1, 0] rfl ?_
  refine hj_iload_n 1 dX2_init_34 rfl ?_
  refine hj_bipush (64 : Int32) dX2_init_35 (by decide) ?_
  refine hj_icmp_ge_F 59 dX2_init_37 (by decide) (by decide) ?_
  refine hj_aload_n 0 dX2_init_40 rfl ?_
  refine hj_getR flX2_11 dX2_init_41 (fun t11 _ => ?_)
  refine hj_iload_n 1 dX2_init_44 rfl ?_
  refine hj_new [.long 0, .long 0] tyX6 clX2_9 itX6 izX6 rfl cfX6 tyX6_ok (by decide +kernel) (fun _ => rfl) dX2_init_45 (Nat.le_of_ble_eq_true rfl) (Nat.le_of_ble_eq_true rfl) (fun q12 σ13 => ?_)
  refine hj_dup dX2_init_48 rfl ?_
  refine hj_callI (M' := mX6_init) (h' := 1) (mc' := 0) (ms' := 0) (As := []) mfX6_init miX6_init rfl rfl mlX2_21 dX2_init_49 (kX6_init G _ _) ⟨Nat.le_of_ble_eq_true rfl, Nat.le_of_ble_eq_true rfl⟩ ⟨Nat.le_of_ble_eq_true rfl, Nat.le_of_ble_eq_true rfl⟩ rfl (Nat.le_of_ble_eq_true rfl) (fun _ σ14 _ => ?_)
  refine hj_aast6 dX2_init_52 (fun σ15 _ => ?_)
  refine hj_iincK (lv' := [(0, .ref a0), (1, .int (1 : Int32))]) 1 (1 : Int32) dX2_init_53 rfl (by decide) (by decide) [1, 0] rfl ?_
  refine hj_goto 34 dX2_init_56 (by decide) ?_
  refine hj_iload_n 1 dX2_init_34 rfl ?_
  refine hj_bipush (64 : Int32) dX2_init_35 (by decide) ?_
  refine hj_icmp_ge_F 59 dX2_init_37 (by decide) (by decide) ?_
  refine hj_aload_n 0 dX2_init_40 rfl ?_
  refine hj_getR flX2_11 dX2_init_41 (fun t16 _ => ?_)
  refine hj_iload_n 1 dX2_init_44 rfl ?_
  refine hj_new [.long 0, .long 0] tyX6 clX2_9 itX6 izX6 rfl cfX6 tyX6_ok (by decide +kernel) (fun _ => rfl) dX2_init_45 (Nat.le_of_ble_eq_true rfl) (Nat.le_of_ble_eq_true rfl) (fun q17 σ18 => ?_)
  refine hj_dup dX2_init_48 rfl ?_
  refine hj_callI (M' := mX6_init) (h' := 1) (mc' := 0) (ms' := 0) (As := []) mfX6_init miX6_init rfl rfl mlX2_21 dX2_init_49 (kX6_init G _ _) ⟨Nat.le_of_ble_eq_true rfl, Nat.le_of_ble_eq_true rfl⟩ ⟨Nat.le_of_ble_eq_true rfl, Nat.le_of_ble_eq_true rfl⟩ rfl (Nat.le_of_ble_eq_true rfl) (fun _ σ19 _ => ?_)
  refine hj_aast6 dX2_init_52 (fun σ20 _ => ?_)
  refine hj_iincK (lv' := [(0, .ref a0), (1, .int (2 : Int32))]) 1 (2 : Int32) dX2_init_53 rfl (by decide) (by decide) [1, 0] rfl ?_
  refine hj_goto 34 dX2_init_56 (by decide) ?_
  refine hj_iload_n 1 dX2_init_34 rfl ?_
  refine hj_bipush (64 : Int32) dX2_init_35 (by decide) ?_
  refine hj_icmp_ge_F 59 dX2_init_37 (by decide) (by decide) ?_
  refine hj_aload_n 0 dX2_init_40 rfl ?_
  refine hj_getR flX2_11 dX2_init_41 (fun t21 _ => ?_)
  refine hj_iload_n 1 dX2_init_44 rfl ?_
  refine hj_new [.long 0, .long 0] tyX6 clX2_9 itX6 izX6 rfl cfX6 tyX6_ok (by decide +kernel) (fun _ => rfl) dX2_init_45 (Nat.le_of_ble_eq_true rfl) (Nat.le_of_ble_eq_true rfl) (fun q22 σ23 => ?_)
  refine hj_dup dX2_init_48 rfl ?_
  refine hj_callI (M' := mX6_init) (h' := 1) (mc' := 0) (ms' := 0) (As := []) mfX6_init miX6_init rfl rfl mlX2_21 dX2_init_49 (kX6_init G _ _) ⟨Nat.le_of_ble_eq_true rfl, Nat.le_of_ble_eq_true rfl⟩ ⟨Nat.le_of_ble_eq_true rfl, Nat.le_of_ble_eq_true rfl⟩ rfl (Nat.le_of_ble_eq_true rfl) (fun _ σ24 _ => ?_)
  refine hj_aast6 dX2_init_52 (fun σ25 _ => ?_)
  refine hj_iincK (lv' := [(0, .ref a0), (1, .int (3 : Int32))]) 1 (3 : Int32) dX2_init_53 rfl (by decide) (by decide) [1, 0] rfl ?_
  refine hj_goto 34 dX2_init_56 (by decide) ?_
  refine hj_iload_n 1 dX2_init_34 rfl ?_
  refine hj_bipush (64 : Int32) dX2_init_35 (by decide) ?_
  refine hj_icmp_ge_F 59 dX2_init_37 (by decide) (by decide) ?_
  refine hj_aload_n 0 dX2_init_40 rfl ?_
  refine hj_getR flX2_11 dX2_init_41 (fun t26 _ => ?_)
  refine hj_iload_n 1 dX2_init_44 rfl ?_
  refine hj_new [.long 0, .long 0] tyX6 clX2_9 itX6 izX6 rfl cfX6 tyX6_ok (by decide +kernel) (fun _ => rfl) dX2_init_45 (Nat.le_of_ble_eq_true rfl) (Nat.le_of_ble_eq_true rfl) (fun q27 σ28 => ?_)
  refine hj_dup dX2_init_48 rfl ?_
  refine hj_callI (M' := mX6_init) (h' := 1) (mc' := 0) (ms' := 0) (As := []) mfX6_init miX6_init rfl rfl mlX2_21 dX2_init_49 (kX6_init G _ _) ⟨Nat.le_of_ble_eq_true rfl, Nat.le_of_ble_eq_true rfl⟩ ⟨Nat.le_of_ble_eq_true rfl, Nat.le_of_ble_eq_true rfl⟩ rfl (Nat.le_of_ble_eq_true rfl) (fun _ σ29 _ => ?_)
  refine hj_aast6 dX2_init_52 (fun σ30 _ => ?_)
  refine hj_iincK (lv' := [(0, .ref a0), (1, .int (4 : Int32))]) 1 (4 : Int32) dX2_init_53 rfl (by decide) (by decide) [1, 0] rfl ?_
  refine hj_goto 34 dX2_init_56 (by decide) ?_
  refine hj_iload_n 1 dX2_init_34 rfl ?_
  refine hj_bipush (64 : Int32) dX2_init_35 (by decide) ?_
  refine hj_icmp_ge_F 59 dX2_init_37 (by decide) (by decide) ?_
  refine hj_aload_n 0 dX2_init_40 rfl ?_
  refine hj_getR flX2_11 dX2_init_41 (fun t31 _ => ?_)
  refine hj_iload_n 1 dX2_init_44 rfl ?_
  refine hj_new [.long 0, .long 0] tyX6 clX2_9 itX6 izX6 rfl cfX6 tyX6_ok (by decide +kernel) (fun _ => rfl) dX2_init_45 (Nat.le_of_ble_eq_true rfl) (Nat.le_of_ble_eq_true rfl) (fun q32 σ33 => ?_)
  refine hj_dup dX2_init_48 rfl ?_
  refine hj_callI (M' := mX6_init) (h' := 1) (mc' := 0) (ms' := 0) (As := []) mfX6_init miX6_init rfl rfl mlX2_21 dX2_init_49 (kX6_init G _ _) ⟨Nat.le_of_ble_eq_true rfl, Nat.le_of_ble_eq_true rfl⟩ ⟨Nat.le_of_ble_eq_true rfl, Nat.le_of_ble_eq_true rfl⟩ rfl (Nat.le_of_ble_eq_true rfl) (fun _ σ34 _ => ?_)
  refine hj_aast6 dX2_init_52 (fun σ35 _ => ?_)
  refine hj_iincK (lv' := [(0, .ref a0), (1, .int (5 : Int32))]) 1 (5 : Int32) dX2_init_53 rfl (by decide) (by decide) [1, 0] rfl ?_
  refine hj_goto 34 dX2_init_56 (by decide) ?_
  refine hj_iload_n 1 dX2_init_34 rfl ?_
  refine hj_bipush (64 : Int32) dX2_init_35 (by decide) ?_
  refine hj_icmp_ge_F 59 dX2_init_37 (by decide) (by decide) ?_
  refine hj_aload_n 0 dX2_init_40 rfl ?_
  refine hj_getR flX2_11 dX2_init_41 (fun t36 _ => ?_)
  refine hj_iload_n 1 dX2_init_44 rfl ?_
  refine hj_new [.long 0, .long 0] tyX6 clX2_9 itX6 izX6 rfl cfX6 tyX6_ok (by decide +kernel) (fun _ => rfl) dX2_init_45 (Nat.le_of_ble_eq_true rfl) (Nat.le_of_ble_eq_true rfl) (fun q37 σ38 => ?_)
  refine hj_dup dX2_init_48 rfl ?_
  refine hj_callI (M' := mX6_init) (h' := 1) (mc' := 0) (ms' := 0) (As := []) mfX6_init miX6_init rfl rfl mlX2_21 dX2_init_49 (kX6_init G _ _) ⟨Nat.le_of_ble_eq_true rfl, Nat.le_of_ble_eq_true rfl⟩ ⟨Nat.le_of_ble_eq_true rfl, Nat.le_of_ble_eq_true rfl⟩ rfl (Nat.le_of_ble_eq_true rfl) (fun _ σ39 _ => ?_)
  refine hj_aast6 dX2_init_52 (fun σ40 _ => ?_)
  refine hj_iincK (lv' := [(0, .ref a0), (1, .int (6 : Int32))]) 1 (6 : Int32) dX2_init_53 rfl (by decide) (by decide) [1, 0] rfl ?_
  refine hj_goto 34 dX2_init_56 (by decide) ?_
  refine hj_iload_n 1 dX2_init_34 rfl ?_
  refine hj_bipush (64 : Int32) dX2_init_35 (by decide) ?_
  refine hj_icmp_ge_F 59 dX2_init_37 (by decide) (by decide) ?_
  refine hj_aload_n 0 dX2_init_40 rfl ?_
  refine hj_getR flX2_11 dX2_init_41 (fun t41 _ => ?_)
  refine hj_iload_n 1 dX2_init_44 rfl ?_
  refine hj_new [.long 0, .long 0] tyX6 clX2_9 itX6 izX6 rfl cfX6 tyX6_ok (by decide +kernel) (fun _ => rfl) dX2_init_45 (Nat.le_of_ble_eq_true rfl) (Nat.le_of_ble_eq_true rfl) (fun q42 σ43 => ?_)
  refine hj_dup dX2_init_48 rfl ?_
  refine hj_callI (M' := mX6_init) (h' := 1) (mc' := 0) (ms' := 0) (As := []) mfX6_init miX6_init rfl rfl mlX2_21 dX2_init_49 (kX6_init G _ _) ⟨Nat.le_of_ble_eq_true rfl, Nat.le_of_ble_eq_true rfl⟩ ⟨Nat.le_of_ble_eq_true rfl, Nat.le_of_ble_eq_true rfl⟩ rfl (Nat.le_of_ble_eq_true rfl) (fun _ σ44 _ => ?_)
  refine hj_aast6 dX2_init_52 (fun σ45 _ => ?_)
  refine hj_iincK (lv' := [(0, .ref a0), (1, .int (7 : Int32))]) 1 (7 : Int32) dX2_init_53 rfl (by decide) (by decide) [1, 0] rfl ?_
  refine hj_goto 34 dX2_init_56 (by decide) ?_
  refine hj_iload_n 1 dX2_init_34 rfl ?_
  refine hj_bipush (64 : Int32) dX2_init_35 (by decide) ?_
  refine hj_icmp_ge_F 59 dX2_init_37 (by decide) (by decide) ?_
  refine hj_aload_n 0 dX2_init_40 rfl ?_
  refine hj_getR flX2_11 dX2_init_41 (fun t46 _ => ?_)
  refine hj_iload_n 1 dX2_init_44 rfl ?_
  refine hj_new [.long 0, .long 0] tyX6 clX2_9 itX6 izX6 rfl cfX6 tyX6_ok (by decide +kernel) (fun _ => rfl) dX2_init_45 (Nat.le_of_ble_eq_true rfl) (Nat.le_of_ble_eq_true rfl) (fun q47 σ48 => ?_)
  refine hj_dup dX2_init_48 rfl ?_
  refine hj_callI (M' := mX6_init) (h' := 1) (mc' := 0) (ms' := 0) (As := []) mfX6_init miX6_init rfl rfl mlX2_21 dX2_init_49 (kX6_init G _ _) ⟨Nat.le_of_ble_eq_true rfl, Nat.le_of_ble_eq_true rfl⟩ ⟨Nat.le_of_ble_eq_true rfl, Nat.le_of_ble_eq_true rfl⟩ rfl (Nat.le_of_ble_eq_true rfl) (fun _ σ49 _ => ?_)
  refine hj_aast6 dX2_init_52 (fun σ50 _ => ?_)
  refine hj_iincK (lv' := [(0, .ref a0), (1, .int (8 : Int32))]) 1 (8 : Int32) dX2_init_53 rfl (by decide) (by decide) [1, 0] rfl ?_
  refine hj_goto 34 dX2_init_56 (by decide) ?_
  refine hj_iload_n 1 dX2_init_34 rfl ?_
  refine hj_bipush (64 : Int32) dX2_init_35 (by decide) ?_
  refine hj_icmp_ge_F 59 dX2_init_37 (by decide) (by decide) ?_
  refine hj_aload_n 0 dX2_init_40 rfl ?_
  refine hj_getR flX2_11 dX2_init_41 (fun t51 _ => ?_)
  refine hj_iload_n 1 dX2_init_44 rfl ?_
  refine hj_new [.long 0, .long 0] tyX6 clX2_9 itX6 izX6 rfl cfX6 tyX6_ok (by decide +kernel) (fun _ => rfl) dX2_init_45 (Nat.le_of_ble_eq_true rfl) (Nat.le_of_ble_eq_true rfl) (fun q52 σ53 => ?_)
  refine hj_dup dX2_init_48 rfl ?_
  refine hj_callI (M' := mX6_init) (h' := 1) (mc' := 0) (ms' := 0) (As := []) mfX6_init miX6_init rfl rfl mlX2_21 dX2_init_49 (kX6_init G _ _) ⟨Nat.le_of_ble_eq_true rfl, Nat.le_of_ble_eq_true rfl⟩ ⟨Nat.le_of_ble_eq_true rfl, Nat.le_of_ble_eq_true rfl⟩ rfl (Nat.le_of_ble_eq_true rfl) (fun _ σ54 _ => ?_)
  refine hj_aast6 dX2_init_52 (fun σ55 _ => ?_)
  refine hj_iincK (lv' := [(0, .ref a0), (1, .int (9 : Int32))]) 1 (9 : Int32) dX2_init_53 rfl (by decide) (by decide) [1, 0] rfl ?_
  refine hj_goto 34 dX2_init_56 (by decide) ?_
  refine hj_iload_n 1 dX2_init_34 rfl ?_
  refine hj_bipush (64 : Int32) dX2_init_35 (by decide) ?_
  refine hj_icmp_ge_F 59 dX2_init_37 (by decide) (by decide) ?_
  refine hj_aload_n 0 dX2_init_40 rfl ?_
  refine hj_getR flX2_11 dX2_init_41 (fun t56 _ => ?_)
  refine hj_iload_n 1 dX2_init_44 rfl ?_
  refine hj_new [.long 0, .long 0] tyX6 clX2_9 itX6 izX6 rfl cfX6 tyX6_ok (by decide +kernel) (fun _ => rfl) dX2_init_45 (Nat.le_of_ble_eq_true rfl) (Nat.le_of_ble_eq_true rfl) (fun q57 σ58 => ?_)
  refine hj_dup dX2_init_48 rfl ?_
  refine hj_callI (M' := mX6_init) (h' := 1) (mc' := 0) (ms' := 0) (As := []) mfX6_init miX6_init rfl rfl mlX2_21 dX2_init_49 (kX6_init G _ _) ⟨Nat.le_of_ble_eq_true rfl, Nat.le_of_ble_eq_true rfl⟩ ⟨Nat.le_of_ble_eq_true rfl, Nat.le_of_ble_eq_true rfl⟩ rfl (Nat.le_of_ble_eq_true rfl) (fun _ σ59 _ => ?_)
  refine hj_aast6 dX2_init_52 (fun σ60 _ => ?_)
  refine hj_iincK (lv' := [(0, .ref a0), (1, .int (10 : Int32))]) 1 (10 : Int32) dX2_init_53 rfl (by decide) (by decide) [1, 0] rfl ?_
  refine hj_goto 34 dX2_init_56 (by decide) ?_
  refine hj_iload_n 1 dX2_init_34 rfl ?_
  refine hj_bipush (64 : Int32) dX2_init_35 (by decide) ?_
  refine hj_icmp_ge_F 59 dX2_init_37 (by decide) (by decide) ?_
  refine hj_aload_n 0 dX2_init_40 rfl ?_
  refine hj_getR flX2_11 dX2_init_41 (fun t61 _ => ?_)
  refine hj_iload_n 1 dX2_init_44 rfl ?_
  refine hj_new [.long 0, .long 0] tyX6 clX2_9 itX6 izX6 rfl cfX6 tyX6_ok (by decide +kernel) (fun _ => rfl) dX2_init_45 (Nat.le_of_ble_eq_true rfl) (Nat.le_of_ble_eq_true rfl) (fun q62 σ63 => ?_)
  refine hj_dup dX2_init_48 rfl ?_
  refine hj_callI (M' := mX6_init) (h' := 1) (mc' := 0) (ms' := 0) (As := []) mfX6_init miX6_init rfl rfl mlX2_21 dX2_init_49 (kX6_init G _ _) ⟨Nat.le_of_ble_eq_true rfl, Nat.le_of_ble_eq_true rfl⟩ ⟨Nat.le_of_ble_eq_true rfl, Nat.le_of_ble_eq_true rfl⟩ rfl (Nat.le_of_ble_eq_true rfl) (fun _ σ64 _ => ?_)
  refine hj_aast6 dX2_init_52 (fun σ65 _ => ?_)
  refine hj_iincK (lv' := [(0, .ref a0), (1, .int (11 : Int32))]) 1 (11 : Int32) dX2_init_53 rfl (by decide) (by decide) [1, 0] rfl ?_
  refine hj_goto 34 dX2_init_56 (by decide) ?_
  refine hj_iload_n 1 dX2_init_34 rfl ?_
  refine hj_bipush (64 : Int32) dX2_init_35 (by decide) ?_
  refine hj_icmp_ge_F 59 dX2_init_37 (by decide) (by decide) ?_
  refine hj_aload_n 0 dX2_init_40 rfl ?_
  refine hj_getR flX2_11 dX2_init_41 (fun t66 _ => ?_)
  refine hj_iload_n 1 dX2_init_44 rfl ?_
  refine hj_new [.long 0, .long 0] tyX6 clX2_9 itX6 izX6 rfl cfX6 tyX6_ok (by decide +kernel) (fun _ => rfl) dX2_init_45 (Nat.le_of_ble_eq_true rfl) (Nat.le_of_ble_eq_true rfl) (fun q67 σ68 => ?_)
  refine hj_dup dX2_init_48 rfl ?_
  refine hj_callI (M' := mX6_init) (h' := 1) (mc' := 0) (ms' := 0) (As := []) mfX6_init miX6_init rfl rfl mlX2_21 dX2_init_49 (kX6_init G _ _) ⟨Nat.le_of_ble_eq_true rfl, Nat.le_of_ble_eq_true rfl⟩ ⟨Nat.le_of_ble_eq_true rfl, Nat.le_of_ble_eq_true rfl⟩ rfl (Nat.le_of_ble_eq_true rfl) (fun _ σ69 _ => ?_)
  refine hj_aast6 dX2_init_52 (fun σ70 _ => ?_)
  refine hj_iincK (lv' := [(0, .ref a0), (1, .int (12 : Int32))]) 1 (12 : Int32) dX2_init_53 rfl (by decide) (by decide) [1, 0] rfl ?_
  refine hj_goto 34 dX2_init_56 (by decide) ?_
  refine hj_iload_n 1 dX2_init_34 rfl ?_
  refine hj_bipush (64 : Int32) dX2_init_35 (by decide) ?_
  refine hj_icmp_ge_F 59 dX2_init_37 (by decide) (by decide) ?_
  refine hj_aload_n 0 dX2_init_40 rfl ?_
  refine hj_getR flX2_11 dX2_init_41 (fun t71 _ => ?_)
  refine hj_iload_n 1 dX2_init_44 rfl ?_
  refine hj_new [.long 0, .long 0] tyX6 clX2_9 itX6 izX6 rfl cfX6 tyX6_ok (by decide +kernel) (fun _ => rfl) dX2_init_45 (Nat.le_of_ble_eq_true rfl) (Nat.le_of_ble_eq_true rfl) (fun q72 σ73 => ?_)
  refine hj_dup dX2_init_48 rfl ?_
  refine hj_callI (M' := mX6_init) (h' := 1) (mc' := 0) (ms' := 0) (As := []) mfX6_init miX6_init rfl rfl mlX2_21 dX2_init_49 (kX6_init G _ _) ⟨Nat.le_of_ble_eq_true rfl, Nat.le_of_ble_eq_true rfl⟩ ⟨Nat.le_of_ble_eq_true rfl, Nat.le_of_ble_eq_true rfl⟩ rfl (Nat.le_of_ble_eq_true rfl) (fun _ σ74 _ => ?_)
  refine hj_aast6 dX2_init_52 (fun σ75 _ => ?_)
  refine hj_iincK (lv' := [(0, .ref a0), (1, .int (13 : Int32))]) 1 (13 : Int32) dX2_init_53 rfl (by decide) (by decide) [1, 0] rfl ?_
  refine hj_goto 34 dX2_init_56 (by decide) ?_
  refine hj_iload_n 1 dX2_init_34 rfl ?_
  refine hj_bipush (64 : Int32) dX2_init_35 (by decide) ?_
  refine hj_icmp_ge_F 59 dX2_init_37 (by decide) (by decide) ?_
  refine hj_aload_n 0 dX2_init_40 rfl ?_
  refine hj_getR flX2_11 dX2_init_41 (fun t76 _ => ?_)
  refine hj_iload_n 1 dX2_init_44 rfl ?_
  refine hj_new [.long 0, .long 0] tyX6 clX2_9 itX6 izX6 rfl cfX6 tyX6_ok (by decide +kernel) (fun _ => rfl) dX2_init_45 (Nat.le_of_ble_eq_true rfl) (Nat.le_of_ble_eq_true rfl) (fun q77 σ78 => ?_)
  refine hj_dup dX2_init_48 rfl ?_
  refine hj_callI (M' := mX6_init) (h' := 1) (mc' := 0) (ms' := 0) (As := []) mfX6_init miX6_init rfl rfl mlX2_21 dX2_init_49 (kX6_init G _ _) ⟨Nat.le_of_ble_eq_true rfl, Nat.le_of_ble_eq_true rfl⟩ ⟨Nat.le_of_ble_eq_true rfl, Nat.le_of_ble_eq_true rfl⟩ rfl (Nat.le_of_ble_eq_true rfl) (fun _ σ79 _ => ?_)
  refine hj_aast6 dX2_init_52 (fun σ80 _ => ?_)
  refine hj_iincK (lv' := [(0, .ref a0), (1, .int (14 : Int32))]) 1 (14 : Int32) dX2_init_53 rfl (by decide) (by decide) [1, 0] rfl ?_
  refine hj_goto 34 dX2_init_56 (by decide) ?_
  refine hj_iload_n 1 dX2_init_34 rfl ?_
  refine hj_bipush (64 : Int32) dX2_init_35 (by decide) ?_
  refine hj_icmp_ge_F 59 dX2_init_37 (by decide) (by decide) ?_
  refine hj_aload_n 0 dX2_init_40 rfl ?_
  refine hj_getR flX2_11 dX2_init_41 (fun t81 _ => ?_)
  refine hj_iload_n 1 dX2_init_44 rfl ?_
  refine hj_new [.long 0, .long 0] tyX6 clX2_9 itX6 izX6 rfl cfX6 tyX6_ok (by decide +kernel) (fun _ => rfl) dX2_init_45 (Nat.le_of_ble_eq_true rfl) (Nat.le_of_ble_eq_true rfl) (fun q82 σ83 => ?_)
  refine hj_dup dX2_init_48 rfl ?_
  refine hj_callI (M' := mX6_init) (h' := 1) (mc' := 0) (ms' := 0) (As := []) mfX6_init miX6_init rfl rfl mlX2_21 dX2_init_49 (kX6_init G _ _) ⟨Nat.le_of_ble_eq_true rfl, Nat.le_of_ble_eq_true rfl⟩ ⟨Nat.le_of_ble_eq_true rfl, Nat.le_of_ble_eq_true rfl⟩ rfl (Nat.le_of_ble_eq_true rfl) (fun _ σ84 _ => ?_)
  refine hj_aast6 dX2_init_52 (fun σ85 _ => ?_)
  refine hj_iincK (lv' := [(0, .ref a0), (1, .int (15 : Int32))]) 1 (15 : Int32) dX2_init_53 rfl (by decide) (by decide) [1, 0] rfl ?_
  refine hj_goto 34 dX2_init_56 (by decide) ?_
  refine hj_iload_n 1 dX2_init_34 rfl ?_
  refine hj_bipush (64 : Int32) dX2_init_35 (by decide) ?_
  refine hj_icmp_ge_F 59 dX2_init_37 (by decide) (by decide) ?_
  refine hj_aload_n 0 dX2_init_40 rfl ?_
  refine hj_getR flX2_11 dX2_init_41 (fun t86 _ => ?_)
  refine hj_iload_n 1 dX2_init_44 rfl ?_
  refine hj_new [.long 0, .long 0] tyX6 clX2_9 itX6 izX6 rfl cfX6 tyX6_ok (by decide +kernel) (fun _ => rfl) dX2_init_45 (Nat.le_of_ble_eq_true rfl) (Nat.le_of_ble_eq_true rfl) (fun q87 σ88 => ?_)
  refine hj_dup dX2_init_48 rfl ?_
  refine hj_callI (M' := mX6_init) (h' := 1) (mc' := 0) (ms' := 0) (As := []) mfX6_init miX6_init rfl rfl mlX2_21 dX2_init_49 (kX6_init G _ _) ⟨Nat.le_of_ble_eq_true rfl, Nat.le_of_ble_eq_true rfl⟩ ⟨Nat.le_of_ble_eq_true rfl, Nat.le_of_ble_eq_true rfl⟩ rfl (Nat.le_of_ble_eq_true rfl) (fun _ σ89 _ => ?_)
  refine hj_aast6 dX2_init_52 (fun σ90 _ => ?_)
  refine hj_iincK (lv' := [(0, .ref a0), (1, .int (16 : Int32))]) 1 (16 : Int32) dX2_init_53 rfl (by decide) (by decide) [1, 0] rfl ?_
  refine hj_goto 34 dX2_init_56 (by decide) ?_
  refine hj_iload_n 1 dX2_init_34 rfl ?_
  refine hj_bipush (64 : Int32) dX2_init_35 (by decide) ?_
  refine hj_icmp_ge_F 59 dX2_init_37 (by decide) (by decide) ?_
  refine hj_aload_n 0 dX2_init_40 rfl ?_
  refine hj_getR flX2_11 dX2_init_41 (fun t91 _ => ?_)
  refine hj_iload_n 1 dX2_init_44 rfl ?_
  refine hj_new [.long 0, .long 0] tyX6 clX2_9 itX6 izX6 rfl cfX6 tyX6_ok (by decide +kernel) (fun _ => rfl) dX2_init_45 (Nat.le_of_ble_eq_true rfl) (Nat.le_of_ble_eq_true rfl) (fun q92 σ93 => ?_)
  refine hj_dup dX2_init_48 rfl ?_
  refine hj_callI (M' := mX6_init) (h' := 1) (mc' := 0) (ms' := 0) (As := []) mfX6_init miX6_init rfl rfl mlX2_21 dX2_init_49 (kX6_init G _ _) ⟨Nat.le_of_ble_eq_true rfl, Nat.le_of_ble_eq_true rfl⟩ ⟨Nat.le_of_ble_eq_true rfl, Nat.le_of_ble_eq_true rfl⟩ rfl (Nat.le_of_ble_eq_true rfl) (fun _ σ94 _ => ?_)
  refine hj_aast6 dX2_init_52 (fun σ95 _ => ?_)
  refine hj_iincK (lv' := [(0, .ref a0), (1, .int (17 : Int32))]) 1 (17 : Int32) dX2_init_53 rfl (by decide) (by decide) [1, 0] rfl ?_
  refine hj_goto 34 dX2_init_56 (by decide) ?_
  refine hj_iload_n 1 dX2_init_34 rfl ?_
  refine hj_bipush (64 : Int32) dX2_init_35 (by decide) ?_
  refine hj_icmp_ge_F 59 dX2_init_37 (by decide) (by decide) ?_
  refine hj_aload_n 0 dX2_init_40 rfl ?_
  refine hj_getR flX2_11 dX2_init_41 (fun t96 _ => ?_)
  refine hj_iload_n 1 dX2_init_44 rfl ?_
  refine hj_new [.long 0, .long 0] tyX6 clX2_9 itX6 izX6 rfl cfX6 tyX6_ok (by decide +kernel) (fun _ => rfl) dX2_init_45 (Nat.le_of_ble_eq_true rfl) (Nat.le_of_ble_eq_true rfl) (fun q97 σ98 => ?_)
  refine hj_dup dX2_init_48 rfl ?_
  refine hj_callI (M' := mX6_init) (h' := 1) (mc' := 0) (ms' := 0) (As := []) mfX6_init miX6_init rfl rfl mlX2_21 dX2_init_49 (kX6_init G _ _) ⟨Nat.le_of_ble_eq_true rfl, Nat.le_of_ble_eq_true rfl⟩ ⟨Nat.le_of_ble_eq_true rfl, Nat.le_of_ble_eq_true rfl⟩ rfl (Nat.le_of_ble_eq_true rfl) (fun _ σ99 _ => ?_)
  refine hj_aast6 dX2_init_52 (fun σ100 _ => ?_)
  refine hj_iincK (lv' := [(0, .ref a0), (1, .int (18 : Int32))]) 1 (18 : Int32) dX2_init_53 rfl (by decide) (by decide) [1, 0] rfl ?_
  refine hj_goto 34 dX2_init_56 (by decide) ?_
  refine hj_iload_n 1 dX2_init_34 rfl ?_
  refine hj_bipush (64 : Int32) dX2_init_35 (by decide) ?_
  refine hj_icmp_ge_F 59 dX2_init_37 (by decide) (by decide) ?_
  refine hj_aload_n 0 dX2_init_40 rfl ?_
  refine hj_getR flX2_11 dX2_init_41 (fun t101 _ => ?_)
  refine hj_iload_n 1 dX2_init_44 rfl ?_
  refine hj_new [.long 0, .long 0] tyX6 clX2_9 itX6 izX6 rfl cfX6 tyX6_ok (by decide +kernel) (fun _ => rfl) dX2_init_45 (Nat.le_of_ble_eq_true rfl) (Nat.le_of_ble_eq_true rfl) (fun q102 σ103 => ?_)
  refine hj_dup dX2_init_48 rfl ?_
  refine hj_callI (M' := mX6_init) (h' := 1) (mc' := 0) (ms' := 0) (As := []) mfX6_init miX6_init rfl rfl mlX2_21 dX2_init_49 (kX6_init G _ _) ⟨Nat.le_of_ble_eq_true rfl, Nat.le_of_ble_eq_true rfl⟩ ⟨Nat.le_of_ble_eq_true rfl, Nat.le_of_ble_eq_true rfl⟩ rfl (Nat.le_of_ble_eq_true rfl) (fun _ σ104 _ => ?_)
  refine hj_aast6 dX2_init_52 (fun σ105 _ => ?_)
  refine hj_iincK (lv' := [(0, .ref a0), (1, .int (19 : Int32))]) 1 (19 : Int32) dX2_init_53 rfl (by decide) (by decide) [1, 0] rfl ?_
  refine hj_goto 34 dX2_init_56 (by decide) ?_
  refine hj_iload_n 1 dX2_init_34 rfl ?_
  refine hj_bipush (64 : Int32) dX2_init_35 (by decide) ?_
  refine hj_icmp_ge_F 59 dX2_init_37 (by decide) (by decide) ?_
  refine hj_aload_n 0 dX2_init_40 rfl ?_
  refine hj_getR flX2_11 dX2_init_41 (fun t106 _ => ?_)
  refine hj_iload_n 1 dX2_init_44 rfl ?_
  refine hj_new [.long 0, .long 0] tyX6 clX2_9 itX6 izX6 rfl cfX6 tyX6_ok (by decide +kernel) (fun _ => rfl) dX2_init_45 (Nat.le_of_ble_eq_true rfl) (Nat.le_of_ble_eq_true rfl) (fun q107 σ108 => ?_)
  refine hj_dup dX2_init_48 rfl ?_
  refine hj_callI (M' := mX6_init) (h' := 1) (mc' := 0) (ms' := 0) (As := []) mfX6_init miX6_init rfl rfl mlX2_21 dX2_init_49 (kX6_init G _ _) ⟨Nat.le_of_ble_eq_true rfl, Nat.le_of_ble_eq_true rfl⟩ ⟨Nat.le_of_ble_eq_true rfl, Nat.le_of_ble_eq_true rfl⟩ rfl (Nat.le_of_ble_eq_true rfl) (fun _ σ109 _ => ?_)
  refine hj_aast6 dX2_init_52 (fun σ110 _ => ?_)
  refine hj_iincK (lv' := [(0, .ref a0), (1, .int (20 : Int32))]) 1 (20 : Int32) dX2_init_53 rfl (by decide) (by decide) [1, 0] rfl ?_
  refine hj_goto 34 dX2_init_56 (by decide) ?_
  refine hj_iload_n 1 dX2_init_34 rfl ?_
  refine hj_bipush (64 : Int32) dX2_init_35 (by decide) ?_
  refine hj_icmp_ge_F 59 dX2_init_37 (by decide) (by decide) ?_
  refine hj_aload_n 0 dX2_init_40 rfl ?_
  refine hj_getR flX2_11 dX2_init_41 (fun t111 _ => ?_)
  refine hj_iload_n 1 dX2_init_44 rfl ?_
  refine hj_new [.long 0, .long 0] tyX6 clX2_9 itX6 izX6 rfl cfX6 tyX6_ok (by decide +kernel) (fun _ => rfl) dX2_init_45 (Nat.le_of_ble_eq_true rfl) (Nat.le_of_ble_eq_true rfl) (fun q112 σ113 => ?_)
  refine hj_dup dX2_init_48 rfl ?_
  refine hj_callI (M' := mX6_init) (h' := 1) (mc' := 0) (ms' := 0) (As := []) mfX6_init miX6_init rfl rfl mlX2_21 dX2_init_49 (kX6_init G _ _) ⟨Nat.le_of_ble_eq_true rfl, Nat.le_of_ble_eq_true rfl⟩ ⟨Nat.le_of_ble_eq_true rfl, Nat.le_of_ble_eq_true rfl⟩ rfl (Nat.le_of_ble_eq_true rfl) (fun _ σ114 _ => ?_)
  refine hj_aast6 dX2_init_52 (fun σ115 _ => ?_)
  refine hj_iincK (lv' := [(0, .ref a0), (1, .int (21 : Int32))]) 1 (21 : Int32) dX2_init_53 rfl (by decide) (by decide) [1, 0] rfl ?_
  refine hj_goto 34 dX2_init_56 (by decide) ?_
  refine hj_iload_n 1 dX2_init_34 rfl ?_
  refine hj_bipush (64 : Int32) dX2_init_35 (by decide) ?_
  refine hj_icmp_ge_F 59 dX2_init_37 (by decide) (by decide) ?_
  refine hj_aload_n 0 dX2_init_40 rfl ?_
  refine hj_getR flX2_11 dX2_init_41 (fun t116 _ => ?_)
  refine hj_iload_n 1 dX2_init_44 rfl ?_
  refine hj_new [.long 0, .long 0] tyX6 clX2_9 itX6 izX6 rfl cfX6 tyX6_ok (by decide +kernel) (fun _ => rfl) dX2_init_45 (Nat.le_of_ble_eq_true rfl) (Nat.le_of_ble_eq_true rfl) (fun q117 σ118 => ?_)
  refine hj_dup dX2_init_48 rfl ?_
  refine hj_callI (M' := mX6_init) (h' := 1) (mc' := 0) (ms' := 0) (As := []) mfX6_init miX6_init rfl rfl mlX2_21 dX2_init_49 (kX6_init G _ _) ⟨Nat.le_of_ble_eq_true rfl, Nat.le_of_ble_eq_true rfl⟩ ⟨Nat.le_of_ble_eq_true rfl, Nat.le_of_ble_eq_true rfl⟩ rfl (Nat.le_of_ble_eq_true rfl) (fun _ σ119 _ => ?_)
  refine hj_aast6 dX2_init_52 (fun σ120 _ => ?_)
  refine hj_iincK (lv' := [(0, .ref a0), (1, .int (22 : Int32))]) 1 (22 : Int32) dX2_init_53 rfl (by decide) (by decide) [1, 0] rfl ?_
  refine hj_goto 34 dX2_init_56 (by decide) ?_
  refine hj_iload_n 1 dX2_init_34 rfl ?_
  refine hj_bipush (64 : Int32) dX2_init_35 (by decide) ?_
  refine hj_icmp_ge_F 59 dX2_init_37 (by decide) (by decide) ?_
  refine hj_aload_n 0 dX2_init_40 rfl ?_
  refine hj_getR flX2_11 dX2_init_41 (fun t121 _ => ?_)
  refine hj_iload_n 1 dX2_init_44 rfl ?_
  refine hj_new [.long 0, .long 0] tyX6 clX2_9 itX6 izX6 rfl cfX6 tyX6_ok (by decide +kernel) (fun _ => rfl) dX2_init_45 (Nat.le_of_ble_eq_true rfl) (Nat.le_of_ble_eq_true rfl) (fun q122 σ123 => ?_)
  refine hj_dup dX2_init_48 rfl ?_
  refine hj_callI (M' := mX6_init) (h' := 1) (mc' := 0) (ms' := 0) (As := []) mfX6_init miX6_init rfl rfl mlX2_21 dX2_init_49 (kX6_init G _ _) ⟨Nat.le_of_ble_eq_true rfl, Nat.le_of_ble_eq_true rfl⟩ ⟨Nat.le_of_ble_eq_true rfl, Nat.le_of_ble_eq_true rfl⟩ rfl (Nat.le_of_ble_eq_true rfl) (fun _ σ124 _ => ?_)
  refine hj_aast6 dX2_init_52 (fun σ125 _ => ?_)
  refine hj_iincK (lv' := [(0, .ref a0), (1, .int (23 : Int32))]) 1 (23 : Int32) dX2_init_53 rfl (by decide) (by decide) [1, 0] rfl ?_
  refine hj_goto 34 dX2_init_56 (by decide) ?_
  refine hj_iload_n 1 dX2_init_34 rfl ?_
  refine hj_bipush (64 : Int32) dX2_init_35 (by decide) ?_
  refine hj_icmp_ge_F 59 dX2_init_37 (by decide) (by decide) ?_
  refine hj_aload_n 0 dX2_init_40 rfl ?_
  refine hj_getR flX2_11 dX2_init_41 (fun t126 _ => ?_)
  refine hj_iload_n 1 dX2_init_44 rfl ?_
  refine hj_new [.long 0, .long 0] tyX6 clX2_9 itX6 izX6 rfl cfX6 tyX6_ok (by decide +kernel) (fun _ => rfl) dX2_init_45 (Nat.le_of_ble_eq_true rfl) (Nat.le_of_ble_eq_true rfl) (fun q127 σ128 => ?_)
  refine hj_dup dX2_init_48 rfl ?_
  refine hj_callI (M' := mX6_init) (h' := 1) (mc' := 0) (ms' := 0) (As := []) mfX6_init miX6_init rfl rfl mlX2_21 dX2_init_49 (kX6_init G _ _) ⟨Nat.le_of_ble_eq_true rfl, Nat.le_of_ble_eq_true rfl⟩ ⟨Nat.le_of_ble_eq_true rfl, Nat.le_of_ble_eq_true rfl⟩ rfl (Nat.le_of_ble_eq_true rfl) (fun _ σ129 _ => ?_)
  refine hj_aast6 dX2_init_52 (fun σ130 _ => ?_)
  refine hj_iincK (lv' := [(0, .ref a0), (1, .int (24 : Int32))]) 1 (24 : Int32) dX2_init_53 rfl (by decide) (by decide) [1, 0] rfl ?_
  refine hj_goto 34 dX2_init_56 (by decide) ?_
  refine hj_iload_n 1 dX2_init_34 rfl ?_
  refine hj_bipush (64 : Int32) dX2_init_35 (by decide) ?_
  refine hj_icmp_ge_F 59 dX2_init_37 (by decide) (by decide) ?_
  refine hj_aload_n 0 dX2_init_40 rfl ?_
  refine hj_getR flX2_11 dX2_init_41 (fun t131 _ => ?_)
  refine hj_iload_n 1 dX2_init_44 rfl ?_
  refine hj_new [.long 0, .long 0] tyX6 clX2_9 itX6 izX6 rfl cfX6 tyX6_ok (by decide +kernel) (fun _ => rfl) dX2_init_45 (Nat.le_of_ble_eq_true rfl) (Nat.le_of_ble_eq_true rfl) (fun q132 σ133 => ?_)
  refine hj_dup dX2_init_48 rfl ?_
  refine hj_callI (M' := mX6_init) (h' := 1) (mc' := 0) (ms' := 0) (As := []) mfX6_init miX6_init rfl rfl mlX2_21 dX2_init_49 (kX6_init G _ _) ⟨Nat.le_of_ble_eq_true rfl, Nat.le_of_ble_eq_true rfl⟩ ⟨Nat.le_of_ble_eq_true rfl, Nat.le_of_ble_eq_true rfl⟩ rfl (Nat.le_of_ble_eq_true rfl) (fun _ σ134 _ => ?_)
  refine hj_aast6 dX2_init_52 (fun σ135 _ => ?_)
  refine hj_iincK (lv' := [(0, .ref a0), (1, .int (25 : Int32))]) 1 (25 : Int32) dX2_init_53 rfl (by decide) (by decide) [1, 0] rfl ?_
  refine hj_goto 34 dX2_init_56 (by decide) ?_
  refine hj_iload_n 1 dX2_init_34 rfl ?_
  refine hj_bipush (64 : Int32) dX2_init_35 (by decide) ?_
  refine hj_icmp_ge_F 59 dX2_init_37 (by decide) (by decide) ?_
  refine hj_aload_n 0 dX2_init_40 rfl ?_
  refine hj_getR flX2_11 dX2_init_41 (fun t136 _ => ?_)
  refine hj_iload_n 1 dX2_init_44 rfl ?_
  refine hj_new [.long 0, .long 0] tyX6 clX2_9 itX6 izX6 rfl cfX6 tyX6_ok (by decide +kernel) (fun _ => rfl) dX2_init_45 (Nat.le_of_ble_eq_true rfl) (Nat.le_of_ble_eq_true rfl) (fun q137 σ138 => ?_)
  refine hj_dup dX2_init_48 rfl ?_
  refine hj_callI (M' := mX6_init) (h' := 1) (mc' := 0) (ms' := 0) (As := []) mfX6_init miX6_init rfl rfl mlX2_21 dX2_init_49 (kX6_init G _ _) ⟨Nat.le_of_ble_eq_true rfl, Nat.le_of_ble_eq_true rfl⟩ ⟨Nat.le_of_ble_eq_true rfl, Nat.le_of_ble_eq_true rfl⟩ rfl (Nat.le_of_ble_eq_true rfl) (fun _ σ139 _ => ?_)
  refine hj_aast6 dX2_init_52 (fun σ140 _ => ?_)
  refine hj_iincK (lv' := [(0, .ref a0), (1, .int (26 : Int32))]) 1 (26 : Int32) dX2_init_53 rfl (by decide) (by decide) [1, 0] rfl ?_
  refine hj_goto 34 dX2_init_56 (by decide) ?_
  refine hj_iload_n 1 dX2_init_34 rfl ?_
  refine hj_bipush (64 : Int32) dX2_init_35 (by decide) ?_
  refine hj_icmp_ge_F 59 dX2_init_37 (by decide) (by decide) ?_
  refine hj_aload_n 0 dX2_init_40 rfl ?_
  refine hj_getR flX2_11 dX2_init_41 (fun t141 _ => ?_)
  refine hj_iload_n 1 dX2_init_44 rfl ?_
  refine hj_new [.long 0, .long 0] tyX6 clX2_9 itX6 izX6 rfl cfX6 tyX6_ok (by decide +kernel) (fun _ => rfl) dX2_init_45 (Nat.le_of_ble_eq_true rfl) (Nat.le_of_ble_eq_true rfl) (fun q142 σ143 => ?_)
  refine hj_dup dX2_init_48 rfl ?_
  refine hj_callI (M' := mX6_init) (h' := 1) (mc' := 0) (ms' := 0) (As := []) mfX6_init miX6_init rfl rfl mlX2_21 dX2_init_49 (kX6_init G _ _) ⟨Nat.le_of_ble_eq_true rfl, Nat.le_of_ble_eq_true rfl⟩ ⟨Nat.le_of_ble_eq_true rfl, Nat.le_of_ble_eq_true rfl⟩ rfl (Nat.le_of_ble_eq_true rfl) (fun _ σ144 _ => ?_)
  refine hj_aast6 dX2_init_52 (fun σ145 _ => ?_)
  refine hj_iincK (lv' := [(0, .ref a0), (1, .int (27 : Int32))]) 1 (27 : Int32) dX2_init_53 rfl (by decide) (by decide) [1, 0] rfl ?_
  refine hj_goto 34 dX2_init_56 (by decide) ?_
  refine hj_iload_n 1 dX2_init_34 rfl ?_
  refine hj_bipush (64 : Int32) dX2_init_35 (by decide) ?_
  refine hj_icmp_ge_F 59 dX2_init_37 (by decide) (by decide) ?_
  refine hj_aload_n 0 dX2_init_40 rfl ?_
  refine hj_getR flX2_11 dX2_init_41 (fun t146 _ => ?_)
  refine hj_iload_n 1 dX2_init_44 rfl ?_
  refine hj_new [.long 0, .long 0] tyX6 clX2_9 itX6 izX6 rfl cfX6 tyX6_ok (by decide +kernel) (fun _ => rfl) dX2_init_45 (Nat.le_of_ble_eq_true rfl) (Nat.le_of_ble_eq_true rfl) (fun q147 σ148 => ?_)
  refine hj_dup dX2_init_48 rfl ?_
  refine hj_callI (M' := mX6_init) (h' := 1) (mc' := 0) (ms' := 0) (As := []) mfX6_init miX6_init rfl rfl mlX2_21 dX2_init_49 (kX6_init G _ _) ⟨Nat.le_of_ble_eq_true rfl, Nat.le_of_ble_eq_true rfl⟩ ⟨Nat.le_of_ble_eq_true rfl, Nat.le_of_ble_eq_true rfl⟩ rfl (Nat.le_of_ble_eq_true rfl) (fun _ σ149 _ => ?_)
  refine hj_aast6 dX2_init_52 (fun σ150 _ => ?_)
  refine hj_iincK (lv' := [(0, .ref a0), (1, .int (28 : Int32))]) 1 (28 : Int32) dX2_init_53 rfl (by decide) (by decide) [1, 0] rfl ?_
  refine hj_goto 34 dX2_init_56 (by decide) ?_
  refine hj_iload_n 1 dX2_init_34 rfl ?_
  refine hj_bipush (64 : Int32) dX2_init_35 (by decide) ?_
  refine hj_icmp_ge_F 59 dX2_init_37 (by decide) (by decide) ?_
  refine hj_aload_n 0 dX2_init_40 rfl ?_
  refine hj_getR flX2_11 dX2_init_41 (fun t151 _ => ?_)
  refine hj_iload_n 1 dX2_init_44 rfl ?_
  refine hj_new [.long 0, .long 0] tyX6 clX2_9 itX6 izX6 rfl cfX6 tyX6_ok (by decide +kernel) (fun _ => rfl) dX2_init_45 (Nat.le_of_ble_eq_true rfl) (Nat.le_of_ble_eq_true rfl) (fun q152 σ153 => ?_)
  refine hj_dup dX2_init_48 rfl ?_
  refine hj_callI (M' := mX6_init) (h' := 1) (mc' := 0) (ms' := 0) (As := []) mfX6_init miX6_init rfl rfl mlX2_21 dX2_init_49 (kX6_init G _ _) ⟨Nat.le_of_ble_eq_true rfl, Nat.le_of_ble_eq_true rfl⟩ ⟨Nat.le_of_ble_eq_true rfl, Nat.le_of_ble_eq_true rfl⟩ rfl (Nat.le_of_ble_eq_true rfl) (fun _ σ154 _ => ?_)
  refine hj_aast6 dX2_init_52 (fun σ155 _ => ?_)
  refine hj_iincK (lv' := [(0, .ref a0), (1, .int (29 : Int32))]) 1 (29 : Int32) dX2_init_53 rfl (by decide) (by decide) [1, 0] rfl ?_
  refine hj_goto 34 dX2_init_56 (by decide) ?_
  refine hj_iload_n 1 dX2_init_34 rfl ?_
  refine hj_bipush (64 : Int32) dX2_init_35 (by decide) ?_
  refine hj_icmp_ge_F 59 dX2_init_37 (by decide) (by decide) ?_
  refine hj_aload_n 0 dX2_init_40 rfl ?_
  refine hj_getR flX2_11 dX2_init_41 (fun t156 _ => ?_)
  refine hj_iload_n 1 dX2_init_44 rfl ?_
  refine hj_new [.long 0, .long 0] tyX6 clX2_9 itX6 izX6 rfl cfX6 tyX6_ok (by decide +kernel) (fun _ => rfl) dX2_init_45 (Nat.le_of_ble_eq_true rfl) (Nat.le_of_ble_eq_true rfl) (fun q157 σ158 => ?_)
  refine hj_dup dX2_init_48 rfl ?_
  refine hj_callI (M' := mX6_init) (h' := 1) (mc' := 0) (ms' := 0) (As := []) mfX6_init miX6_init rfl rfl mlX2_21 dX2_init_49 (kX6_init G _ _) ⟨Nat.le_of_ble_eq_true rfl, Nat.le_of_ble_eq_true rfl⟩ ⟨Nat.le_of_ble_eq_true rfl, Nat.le_of_ble_eq_true rfl⟩ rfl (Nat.le_of_ble_eq_true rfl) (fun _ σ159 _ => ?_)
  refine hj_aast6 dX2_init_52 (fun σ160 _ => ?_)
  refine hj_iincK (lv' := [(0, .ref a0), (1, .int (30 : Int32))]) 1 (30 : Int32) dX2_init_53 rfl (by decide) (by decide) [1, 0] rfl ?_
  refine hj_goto 34 dX2_init_56 (by decide) ?_
  refine hj_iload_n 1 dX2_init_34 rfl ?_
  refine hj_bipush (64 : Int32) dX2_init_35 (by decide) ?_
  refine hj_icmp_ge_F 59 dX2_init_37 (by decide) (by decide) ?_
  refine hj_aload_n 0 dX2_init_40 rfl ?_
  refine hj_getR flX2_11 dX2_init_41 (fun t161 _ => ?_)
  refine hj_iload_n 1 dX2_init_44 rfl ?_
  refine hj_new [.long 0, .long 0] tyX6 clX2_9 itX6 izX6 rfl cfX6 tyX6_ok (by decide +kernel) (fun _ => rfl) dX2_init_45 (Nat.le_of_ble_eq_true rfl) (Nat.le_of_ble_eq_true rfl) (fun q162 σ163 => ?_)
  refine hj_dup dX2_init_48 rfl ?_
  refine hj_callI (M' := mX6_init) (h' := 1) (mc' := 0) (ms' := 0) (As := []) mfX6_init miX6_init rfl rfl mlX2_21 dX2_init_49 (kX6_init G _ _) ⟨Nat.le_of_ble_eq_true rfl, Nat.le_of_ble_eq_true rfl⟩ ⟨Nat.le_of_ble_eq_true rfl, Nat.le_of_ble_eq_true rfl⟩ rfl (Nat.le_of_ble_eq_true rfl) (fun _ σ164 _ => ?_)
  refine hj_aast6 dX2_init_52 (fun σ165 _ => ?_)
  refine hj_iincK (lv' := [(0, .ref a0), (1, .int (31 : Int32))]) 1 (31 : Int32) dX2_init_53 rfl (by decide) (by decide) [1, 0] rfl ?_
  refine hj_goto 34 dX2_init_56 (by decide) ?_
  refine hj_iload_n 1 dX2_init_34 rfl ?_
  refine hj_bipush (64 : Int32) dX2_init_35 (by decide) ?_
  refine hj_icmp_ge_F 59 dX2_init_37 (by decide) (by decide) ?_
  refine hj_aload_n 0 dX2_init_40 rfl ?_
  refine hj_getR flX2_11 dX2_init_41 (fun t166 _ => ?_)
  refine hj_iload_n 1 dX2_init_44 rfl ?_
  refine hj_new [.long 0, .long 0] tyX6 clX2_9 itX6 izX6 rfl cfX6 tyX6_ok (by decide +kernel) (fun _ => rfl) dX2_init_45 (Nat.le_of_ble_eq_true rfl) (Nat.le_of_ble_eq_true rfl) (fun q167 σ168 => ?_)
  refine hj_dup dX2_init_48 rfl ?_
  refine hj_callI (M' := mX6_init) (h' := 1) (mc' := 0) (ms' := 0) (As := []) mfX6_init miX6_init rfl rfl mlX2_21 dX2_init_49 (kX6_init G _ _) ⟨Nat.le_of_ble_eq_true rfl, Nat.le_of_ble_eq_true rfl⟩ ⟨Nat.le_of_ble_eq_true rfl, Nat.le_of_ble_eq_true rfl⟩ rfl (Nat.le_of_ble_eq_true rfl) (fun _ σ169 _ => ?_)
  refine hj_aast6 dX2_init_52 (fun σ170 _ => ?_)
  refine hj_iincK (lv' := [(0, .ref a0), (1, .int (32 : Int32))]) 1 (32 : Int32) dX2_init_53 rfl (by decide) (by decide) [1, 0] rfl ?_
  refine hj_goto 34 dX2_init_56 (by decide) ?_
  refine hj_iload_n 1 dX2_init_34 rfl ?_
  refine hj_bipush (64 : Int32) dX2_init_35 (by decide) ?_
  refine hj_icmp_ge_F 59 dX2_init_37 (by decide) (by decide) ?_
  refine hj_aload_n 0 dX2_init_40 rfl ?_
  refine hj_getR flX2_11 dX2_init_41 (fun t171 _ => ?_)
  refine hj_iload_n 1 dX2_init_44 rfl ?_
  refine hj_new [.long 0, .long 0] tyX6 clX2_9 itX6 izX6 rfl cfX6 tyX6_ok (by decide +kernel) (fun _ => rfl) dX2_init_45 (Nat.le_of_ble_eq_true rfl) (Nat.le_of_ble_eq_true rfl) (fun q172 σ173 => ?_)
  refine hj_dup dX2_init_48 rfl ?_
  refine hj_callI (M' := mX6_init) (h' := 1) (mc' := 0) (ms' := 0) (As := []) mfX6_init miX6_init rfl rfl mlX2_21 dX2_init_49 (kX6_init G _ _) ⟨Nat.le_of_ble_eq_true rfl, Nat.le_of_ble_eq_true rfl⟩ ⟨Nat.le_of_ble_eq_true rfl, Nat.le_of_ble_eq_true rfl⟩ rfl (Nat.le_of_ble_eq_true rfl) (fun _ σ174 _ => ?_)
  refine hj_aast6 dX2_init_52 (fun σ175 _ => ?_)
  refine hj_iincK (lv' := [(0, .ref a0), (1, .int (33 : Int32))]) 1 (33 : Int32) dX2_init_53 rfl (by decide) (by decide) [1, 0] rfl ?_
  refine hj_goto 34 dX2_init_56 (by decide) ?_
  refine hj_iload_n 1 dX2_init_34 rfl ?_
  refine hj_bipush (64 : Int32) dX2_init_35 (by decide) ?_
  refine hj_icmp_ge_F 59 dX2_init_37 (by decide) (by decide) ?_
  refine hj_aload_n 0 dX2_init_40 rfl ?_
  refine hj_getR flX2_11 dX2_init_41 (fun t176 _ => ?_)
  refine hj_iload_n 1 dX2_init_44 rfl ?_
  refine hj_new [.long 0, .long 0] tyX6 clX2_9 itX6 izX6 rfl cfX6 tyX6_ok (by decide +kernel) (fun _ => rfl) dX2_init_45 (Nat.le_of_ble_eq_true rfl) (Nat.le_of_ble_eq_true rfl) (fun q177 σ178 => ?_)
  refine hj_dup dX2_init_48 rfl ?_
  refine hj_callI (M' := mX6_init) (h' := 1) (mc' := 0) (ms' := 0) (As := []) mfX6_init miX6_init rfl rfl mlX2_21 dX2_init_49 (kX6_init G _ _) ⟨Nat.le_of_ble_eq_true rfl, Nat.le_of_ble_eq_true rfl⟩ ⟨Nat.le_of_ble_eq_true rfl, Nat.le_of_ble_eq_true rfl⟩ rfl (Nat.le_of_ble_eq_true rfl) (fun _ σ179 _ => ?_)
  refine hj_aast6 dX2_init_52 (fun σ180 _ => ?_)
  refine hj_iincK (lv' := [(0, .ref a0), (1, .int (34 : Int32))]) 1 (34 : Int32) dX2_init_53 rfl (by decide) (by decide) [1, 0] rfl ?_
  refine hj_goto 34 dX2_init_56 (by decide) ?_
  refine hj_iload_n 1 dX2_init_34 rfl ?_
  refine hj_bipush (64 : Int32) dX2_init_35 (by decide) ?_
  refine hj_icmp_ge_F 59 dX2_init_37 (by decide) (by decide) ?_
  refine hj_aload_n 0 dX2_init_40 rfl ?_
  refine hj_getR flX2_11 dX2_init_41 (fun t181 _ => ?_)
  refine hj_iload_n 1 dX2_init_44 rfl ?_
  refine hj_new [.long 0, .long 0] tyX6 clX2_9 itX6 izX6 rfl cfX6 tyX6_ok (by decide +kernel) (fun _ => rfl) dX2_init_45 (Nat.le_of_ble_eq_true rfl) (Nat.le_of_ble_eq_true rfl) (fun q182 σ183 => ?_)
  refine hj_dup dX2_init_48 rfl ?_
  refine hj_callI (M' := mX6_init) (h' := 1) (mc' := 0) (ms' := 0) (As := []) mfX6_init miX6_init rfl rfl mlX2_21 dX2_init_49 (kX6_init G _ _) ⟨Nat.le_of_ble_eq_true rfl, Nat.le_of_ble_eq_true rfl⟩ ⟨Nat.le_of_ble_eq_true rfl, Nat.le_of_ble_eq_true rfl⟩ rfl (Nat.le_of_ble_eq_true rfl) (fun _ σ184 _ => ?_)
  refine hj_aast6 dX2_init_52 (fun σ185 _ => ?_)
  refine hj_iincK (lv' := [(0, .ref a0), (1, .int (35 : Int32))]) 1 (35 : Int32) dX2_init_53 rfl (by decide) (by decide) [1, 0] rfl ?_
  refine hj_goto 34 dX2_init_56 (by decide) ?_
  refine hj_iload_n 1 dX2_init_34 rfl ?_
  refine hj_bipush (64 : Int32) dX2_init_35 (by decide) ?_
  refine hj_icmp_ge_F 59 dX2_init_37 (by decide) (by decide) ?_
  refine hj_aload_n 0 dX2_init_40 rfl ?_
  refine hj_getR flX2_11 dX2_init_41 (fun t186 _ => ?_)
  refine hj_iload_n 1 dX2_init_44 rfl ?_
  refine hj_new [.long 0, .long 0] tyX6 clX2_9 itX6 izX6 rfl cfX6 tyX6_ok (by decide +kernel) (fun _ => rfl) dX2_init_45 (Nat.le_of_ble_eq_true rfl) (Nat.le_of_ble_eq_true rfl) (fun q187 σ188 => ?_)
  refine hj_dup dX2_init_48 rfl ?_
  refine hj_callI (M' := mX6_init) (h' := 1) (mc' := 0) (ms' := 0) (As := []) mfX6_init miX6_init rfl rfl mlX2_21 dX2_init_49 (kX6_init G _ _) ⟨Nat.le_of_ble_eq_true rfl, Nat.le_of_ble_eq_true rfl⟩ ⟨Nat.le_of_ble_eq_true rfl, Nat.le_of_ble_eq_true rfl⟩ rfl (Nat.le_of_ble_eq_true rfl) (fun _ σ189 _ => ?_)
  refine hj_aast6 dX2_init_52 (fun σ190 _ => ?_)
  refine hj_iincK (lv' := [(0, .ref a0), (1, .int (36 : Int32))]) 1 (36 : Int32) dX2_init_53 rfl (by decide) (by decide) [1, 0] rfl ?_
  refine hj_goto 34 dX2_init_56 (by decide) ?_
  refine hj_iload_n 1 dX2_init_34 rfl ?_
  refine hj_bipush (64 : Int32) dX2_init_35 (by decide) ?_
  refine hj_icmp_ge_F 59 dX2_init_37 (by decide) (by decide) ?_
  refine hj_aload_n 0 dX2_init_40 rfl ?_
  refine hj_getR flX2_11 dX2_init_41 (fun t191 _ => ?_)
  refine hj_iload_n 1 dX2_init_44 rfl ?_
  refine hj_new [.long 0, .long 0] tyX6 clX2_9 itX6 izX6 rfl cfX6 tyX6_ok (by decide +kernel) (fun _ => rfl) dX2_init_45 (Nat.le_of_ble_eq_true rfl) (Nat.le_of_ble_eq_true rfl) (fun q192 σ193 => ?_)
  refine hj_dup dX2_init_48 rfl ?_
  refine hj_callI (M' := mX6_init) (h' := 1) (mc' := 0) (ms' := 0) (As := []) mfX6_init miX6_init rfl rfl mlX2_21 dX2_init_49 (kX6_init G _ _) ⟨Nat.le_of_ble_eq_true rfl, Nat.le_of_ble_eq_true rfl⟩ ⟨Nat.le_of_ble_eq_true rfl, Nat.le_of_ble_eq_true rfl⟩ rfl (Nat.le_of_ble_eq_true rfl) (fun _ σ194 _ => ?_)
  refine hj_aast6 dX2_init_52 (fun σ195 _ => ?_)
  refine hj_iincK (lv' := [(0, .ref a0), (1, .int (37 : Int32))]) 1 (37 : Int32) dX2_init_53 rfl (by decide) (by decide) [1, 0] rfl ?_
  refine hj_goto 34 dX2_init_56 (by decide) ?_
  refine hj_iload_n 1 dX2_init_34 rfl ?_
  refine hj_bipush (64 : Int32) dX2_init_35 (by decide) ?_
  refine hj_icmp_ge_F 59 dX2_init_37 (by decide) (by decide) ?_
  refine hj_aload_n 0 dX2_init_40 rfl ?_
  refine hj_getR flX2_11 dX2_init_41 (fun t196 _ => ?_)
  refine hj_iload_n 1 dX2_init_44 rfl ?_
  refine hj_new [.long 0, .long 0] tyX6 clX2_9 itX6 izX6 rfl cfX6 tyX6_ok (by decide +kernel) (fun _ => rfl) dX2_init_45 (Nat.le_of_ble_eq_true rfl) (Nat.le_of_ble_eq_true rfl) (fun q197 σ198 => ?_)
  refine hj_dup dX2_init_48 rfl ?_
  refine hj_callI (M' := mX6_init) (h' := 1) (mc' := 0) (ms' := 0) (As := []) mfX6_init miX6_init rfl rfl mlX2_21 dX2_init_49 (kX6_init G _ _) ⟨Nat.le_of_ble_eq_true rfl, Nat.le_of_ble_eq_true rfl⟩ ⟨Nat.le_of_ble_eq_true rfl, Nat.le_of_ble_eq_true rfl⟩ rfl (Nat.le_of_ble_eq_true rfl) (fun _ σ199 _ => ?_)
  refine hj_aast6 dX2_init_52 (fun σ200 _ => ?_)
  refine hj_iincK (lv' := [(0, .ref a0), (1, .int (38 : Int32))]) 1 (38 : Int32) dX2_init_53 rfl (by decide) (by decide) [1, 0] rfl ?_
  refine hj_goto 34 dX2_init_56 (by decide) ?_
  refine hj_iload_n 1 dX2_init_34 rfl ?_
  refine hj_bipush (64 : Int32) dX2_init_35 (by decide) ?_
  refine hj_icmp_ge_F 59 dX2_init_37 (by decide) (by decide) ?_
  refine hj_aload_n 0 dX2_init_40 rfl ?_
  refine hj_getR flX2_11 dX2_init_41 (fun t201 _ => ?_)
  refine hj_iload_n 1 dX2_init_44 rfl ?_
  refine hj_new [.long 0, .long 0] tyX6 clX2_9 itX6 izX6 rfl cfX6 tyX6_ok (by decide +kernel) (fun _ => rfl) dX2_init_45 (Nat.le_of_ble_eq_true rfl) (Nat.le_of_ble_eq_true rfl) (fun q202 σ203 => ?_)
  refine hj_dup dX2_init_48 rfl ?_
  refine hj_callI (M' := mX6_init) (h' := 1) (mc' := 0) (ms' := 0) (As := []) mfX6_init miX6_init rfl rfl mlX2_21 dX2_init_49 (kX6_init G _ _) ⟨Nat.le_of_ble_eq_true rfl, Nat.le_of_ble_eq_true rfl⟩ ⟨Nat.le_of_ble_eq_true rfl, Nat.le_of_ble_eq_true rfl⟩ rfl (Nat.le_of_ble_eq_true rfl) (fun _ σ204 _ => ?_)
  refine hj_aast6 dX2_init_52 (fun σ205 _ => ?_)
  refine hj_iincK (lv' := [(0, .ref a0), (1, .int (39 : Int32))]) 1 (39 : Int32) dX2_init_53 rfl (by decide) (by decide) [1, 0] rfl ?_
  refine hj_goto 34 dX2_init_56 (by decide) ?_
  refine hj_iload_n 1 dX2_init_34 rfl ?_
  refine hj_bipush (64 : Int32) dX2_init_35 (by decide) ?_
  refine hj_icmp_ge_F 59 dX2_init_37 (by decide) (by decide) ?_
  refine hj_aload_n 0 dX2_init_40 rfl ?_
  refine hj_getR flX2_11 dX2_init_41 (fun t206 _ => ?_)
  refine hj_iload_n 1 dX2_init_44 rfl ?_
  refine hj_new [.long 0, .long 0] tyX6 clX2_9 itX6 izX6 rfl cfX6 tyX6_ok (by decide +kernel) (fun _ => rfl) dX2_init_45 (Nat.le_of_ble_eq_true rfl) (Nat.le_of_ble_eq_true rfl) (fun q207 σ208 => ?_)
  refine hj_dup dX2_init_48 rfl ?_
  refine hj_callI (M' := mX6_init) (h' := 1) (mc' := 0) (ms' := 0) (As := []) mfX6_init miX6_init rfl rfl mlX2_21 dX2_init_49 (kX6_init G _ _) ⟨Nat.le_of_ble_eq_true rfl, Nat.le_of_ble_eq_true rfl⟩ ⟨Nat.le_of_ble_eq_true rfl, Nat.le_of_ble_eq_true rfl⟩ rfl (Nat.le_of_ble_eq_true rfl) (fun _ σ209 _ => ?_)
  refine hj_aast6 dX2_init_52 (fun σ210 _ => ?_)
  refine hj_iincK (lv' := [(0, .ref a0), (1, .int (40 : Int32))]) 1 (40 : Int32) dX2_init_53 rfl (by decide) (by decide) [1, 0] rfl ?_
  refine hj_goto 34 dX2_init_56 (by decide) ?_
  refine hj_iload_n 1 dX2_init_34 rfl ?_
  refine hj_bipush (64 : Int32) dX2_init_35 (by decide) ?_
  refine hj_icmp_ge_F 59 dX2_init_37 (by decide) (by decide) ?_
  refine hj_aload_n 0 dX2_init_40 rfl ?_
  refine hj_getR flX2_11 dX2_init_41 (fun t211 _ => ?_)
  refine hj_iload_n 1 dX2_init_44 rfl ?_
  refine hj_new [.long 0, .long 0] tyX6 clX2_9 itX6 izX6 rfl cfX6 tyX6_ok (by decide +kernel) (fun _ => rfl) dX2_init_45 (Nat.le_of_ble_eq_true rfl) (Nat.le_of_ble_eq_true rfl) (fun q212 σ213 => ?_)
  refine hj_dup dX2_init_48 rfl ?_
  refine hj_callI (M' := mX6_init) (h' := 1) (mc' := 0) (ms' := 0) (As := []) mfX6_init miX6_init rfl rfl mlX2_21 dX2_init_49 (kX6_init G _ _) ⟨Nat.le_of_ble_eq_true rfl, Nat.le_of_ble_eq_true rfl⟩ ⟨Nat.le_of_ble_eq_true rfl, Nat.le_of_ble_eq_true rfl⟩ rfl (Nat.le_of_ble_eq_true rfl) (fun _ σ214 _ => ?_)
  refine hj_aast6 dX2_init_52 (fun σ215 _ => ?_)
  refine hj_iincK (lv' := [(0, .ref a0), (1, .int (41 : Int32))]) 1 (41 : Int32) dX2_init_53 rfl (by decide) (by decide) [1, 0] rfl ?_
  refine hj_goto 34 dX2_init_56 (by decide) ?_
  refine hj_iload_n 1 dX2_init_34 rfl ?_
  refine hj_bipush (64 : Int32) dX2_init_35 (by decide) ?_
  refine hj_icmp_ge_F 59 dX2_init_37 (by decide) (by decide) ?_
  refine hj_aload_n 0 dX2_init_40 rfl ?_
  refine hj_getR flX2_11 dX2_init_41 (fun t216 _ => ?_)
  refine hj_iload_n 1 dX2_init_44 rfl ?_
  refine hj_new [.long 0, .long 0] tyX6 clX2_9 itX6 izX6 rfl cfX6 tyX6_ok (by decide +kernel) (fun _ => rfl) dX2_init_45 (Nat.le_of_ble_eq_true rfl) (Nat.le_of_ble_eq_true rfl) (fun q217 σ218 => ?_)
  refine hj_dup dX2_init_48 rfl ?_
  refine hj_callI (M' := mX6_init) (h' := 1) (mc' := 0) (ms' := 0) (As := []) mfX6_init miX6_init rfl rfl mlX2_21 dX2_init_49 (kX6_init G _ _) ⟨Nat.le_of_ble_eq_true rfl, Nat.le_of_ble_eq_true rfl⟩ ⟨Nat.le_of_ble_eq_true rfl, Nat.le_of_ble_eq_true rfl⟩ rfl (Nat.le_of_ble_eq_true rfl) (fun _ σ219 _ => ?_)
  refine hj_aast6 dX2_init_52 (fun σ220 _ => ?_)
  refine hj_iincK (lv' := [(0, .ref a0), (1, .int (42 : Int32))]) 1 (42 : Int32) dX2_init_53 rfl (by decide) (by decide) [1, 0] rfl ?_
  refine hj_goto 34 dX2_init_56 (by decide) ?_
  refine hj_iload_n 1 dX2_init_34 rfl ?_
  refine hj_bipush (64 : Int32) dX2_init_35 (by decide) ?_
  refine hj_icmp_ge_F 59 dX2_init_37 (by decide) (by decide) ?_
  refine hj_aload_n 0 dX2_init_40 rfl ?_
  refine hj_getR flX2_11 dX2_init_41 (fun t221 _ => ?_)
  refine hj_iload_n 1 dX2_init_44 rfl ?_
  refine hj_new [.long 0, .long 0] tyX6 clX2_9 itX6 izX6 rfl cfX6 tyX6_ok (by decide +kernel) (fun _ => rfl) dX2_init_45 (Nat.le_of_ble_eq_true rfl) (Nat.le_of_ble_eq_true rfl) (fun q222 σ223 => ?_)
  refine hj_dup dX2_init_48 rfl ?_
  refine hj_callI (M' := mX6_init) (h' := 1) (mc' := 0) (ms' := 0) (As := []) mfX6_init miX6_init rfl rfl mlX2_21 dX2_init_49 (kX6_init G _ _) ⟨Nat.le_of_ble_eq_true rfl, Nat.le_of_ble_eq_true rfl⟩ ⟨Nat.le_of_ble_eq_true rfl, Nat.le_of_ble_eq_true rfl⟩ rfl (Nat.le_of_ble_eq_true rfl) (fun _ σ224 _ => ?_)
  refine hj_aast6 dX2_init_52 (fun σ225 _ => ?_)
  refine hj_iincK (lv' := [(0, .ref a0), (1, .int (43 : Int32))]) 1 (43 : Int32) dX2_init_53 rfl (by decide) (by decide) [1, 0] rfl ?_
  refine hj_goto 34 dX2_init_56 (by decide) ?_
  refine hj_iload_n 1 dX2_init_34 rfl ?_
  refine hj_bipush (64 : Int32) dX2_init_35 (by decide) ?_
  refine hj_icmp_ge_F 59 dX2_init_37 (by decide) (by decide) ?_
  refine hj_aload_n 0 dX2_init_40 rfl ?_
  refine hj_getR flX2_11 dX2_init_41 (fun t226 _ => ?_)
  refine hj_iload_n 1 dX2_init_44 rfl ?_
  refine hj_new [.long 0, .long 0] tyX6 clX2_9 itX6 izX6 rfl cfX6 tyX6_ok (by decide +kernel) (fun _ => rfl) dX2_init_45 (Nat.le_of_ble_eq_true rfl) (Nat.le_of_ble_eq_true rfl) (fun q227 σ228 => ?_)
  refine hj_dup dX2_init_48 rfl ?_
  refine hj_callI (M' := mX6_init) (h' := 1) (mc' := 0) (ms' := 0) (As := []) mfX6_init miX6_init rfl rfl mlX2_21 dX2_init_49 (kX6_init G _ _) ⟨Nat.le_of_ble_eq_true rfl, Nat.le_of_ble_eq_true rfl⟩ ⟨Nat.le_of_ble_eq_true rfl, Nat.le_of_ble_eq_true rfl⟩ rfl (Nat.le_of_ble_eq_true rfl) (fun _ σ229 _ => ?_)
  refine hj_aast6 dX2_init_52 (fun σ230 _ => ?_)
  refine hj_iincK (lv' := [(0, .ref a0), (1, .int (44 : Int32))]) 1 (44 : Int32) dX2_init_53 rfl (by decide) (by decide) [1, 0] rfl ?_
  refine hj_goto 34 dX2_init_56 (by decide) ?_
  refine hj_iload_n 1 dX2_init_34 rfl ?_
  refine hj_bipush (64 : Int32) dX2_init_35 (by decide) ?_
  refine hj_icmp_ge_F 59 dX2_init_37 (by decide) (by decide) ?_
  refine hj_aload_n 0 dX2_init_40 rfl ?_
  refine hj_getR flX2_11 dX2_init_41 (fun t231 _ => ?_)
  refine hj_iload_n 1 dX2_init_44 rfl ?_
  refine hj_new [.long 0, .long 0] tyX6 clX2_9 itX6 izX6 rfl cfX6 tyX6_ok (by decide +kernel) (fun _ => rfl) dX2_init_45 (Nat.le_of_ble_eq_true rfl) (Nat.le_of_ble_eq_true rfl) (fun q232 σ233 => ?_)
  refine hj_dup dX2_init_48 rfl ?_
  refine hj_callI (M' := mX6_init) (h' := 1) (mc' := 0) (ms' := 0) (As := []) mfX6_init miX6_init rfl rfl mlX2_21 dX2_init_49 (kX6_init G _ _) ⟨Nat.le_of_ble_eq_true rfl, Nat.le_of_ble_eq_true rfl⟩ ⟨Nat.le_of_ble_eq_true rfl, Nat.le_of_ble_eq_true rfl⟩ rfl (Nat.le_of_ble_eq_true rfl) (fun _ σ234 _ => ?_)
  refine hj_aast6 dX2_init_52 (fun σ235 _ => ?_)
  refine hj_iincK (lv' := [(0, .ref a0), (1, .int (45 : Int32))]) 1 (45 : Int32) dX2_init_53 rfl (by decide) (by decide) [1, 0] rfl ?_
  refine hj_goto 34 dX2_init_56 (by decide) ?_
  refine hj_iload_n 1 dX2_init_34 rfl ?_
  refine hj_bipush (64 : Int32) dX2_init_35 (by decide) ?_
  refine hj_icmp_ge_F 59 dX2_init_37 (by decide) (by decide) ?_
  refine hj_aload_n 0 dX2_init_40 rfl ?_
  refine hj_getR flX2_11 dX2_init_41 (fun t236 _ => ?_)
  refine hj_iload_n 1 dX2_init_44 rfl ?_
  refine hj_new [.long 0, .long 0] tyX6 clX2_9 itX6 izX6 rfl cfX6 tyX6_ok (by decide +kernel) (fun _ => rfl) dX2_init_45 (Nat.le_of_ble_eq_true rfl) (Nat.le_of_ble_eq_true rfl) (fun q237 σ238 => ?_)
  refine hj_dup dX2_init_48 rfl ?_
  refine hj_callI (M' := mX6_init) (h' := 1) (mc' := 0) (ms' := 0) (As := []) mfX6_init miX6_init rfl rfl mlX2_21 dX2_init_49 (kX6_init G _ _) ⟨Nat.le_of_ble_eq_true rfl, Nat.le_of_ble_eq_true rfl⟩ ⟨Nat.le_of_ble_eq_true rfl, Nat.le_of_ble_eq_true rfl⟩ rfl (Nat.le_of_ble_eq_true rfl) (fun _ σ239 _ => ?_)
  refine hj_aast6 dX2_init_52 (fun σ240 _ => ?_)
  refine hj_iincK (lv' := [(0, .ref a0), (1, .int (46 : Int32))]) 1 (46 : Int32) dX2_init_53 rfl (by decide) (by decide) [1, 0] rfl ?_
  refine hj_goto 34 dX2_init_56 (by decide) ?_
  refine hj_iload_n 1 dX2_init_34 rfl ?_
  refine hj_bipush (64 : Int32) dX2_init_35 (by decide) ?_
  refine hj_icmp_ge_F 59 dX2_init_37 (by decide) (by decide) ?_
  refine hj_aload_n 0 dX2_init_40 rfl ?_
  refine hj_getR flX2_11 dX2_init_41 (fun t241 _ => ?_)
  refine hj_iload_n 1 dX2_init_44 rfl ?_
  refine hj_new [.long 0, .long 0] tyX6 clX2_9 itX6 izX6 rfl cfX6 tyX6_ok (by decide +kernel) (fun _ => rfl) dX2_init_45 (Nat.le_of_ble_eq_true rfl) (Nat.le_of_ble_eq_true rfl) (fun q242 σ243 => ?_)
  refine hj_dup dX2_init_48 rfl ?_
  refine hj_callI (M' := mX6_init) (h' := 1) (mc' := 0) (ms' := 0) (As := []) mfX6_init miX6_init rfl rfl mlX2_21 dX2_init_49 (kX6_init G _ _) ⟨Nat.le_of_ble_eq_true rfl, Nat.le_of_ble_eq_true rfl⟩ ⟨Nat.le_of_ble_eq_true rfl, Nat.le_of_ble_eq_true rfl⟩ rfl (Nat.le_of_ble_eq_true rfl) (fun _ σ244 _ => ?_)
  refine hj_aast6 dX2_init_52 (fun σ245 _ => ?_)
  refine hj_iincK (lv' := [(0, .ref a0), (1, .int (47 : Int32))]) 1 (47 : Int32) dX2_init_53 rfl (by decide) (by decide) [1, 0] rfl ?_
  refine hj_goto 34 dX2_init_56 (by decide) ?_
  refine hj_iload_n 1 dX2_init_34 rfl ?_
  refine hj_bipush (64 : Int32) dX2_init_35 (by decide) ?_
  refine hj_icmp_ge_F 59 dX2_init_37 (by decide) (by decide) ?_
  refine hj_aload_n 0 dX2_init_40 rfl ?_
  refine hj_getR flX2_11 dX2_init_41 (fun t246 _ => ?_)
  refine hj_iload_n 1 dX2_init_44 rfl ?_
  refine hj_new [.long 0, .long 0] tyX6 clX2_9 itX6 izX6 rfl cfX6 tyX6_ok (by decide +kernel) (fun _ => rfl) dX2_init_45 (Nat.le_of_ble_eq_true rfl) (Nat.le_of_ble_eq_true rfl) (fun q247 σ248 => ?_)
  refine hj_dup dX2_init_48 rfl ?_
  refine hj_callI (M' := mX6_init) (h' := 1) (mc' := 0) (ms' := 0) (As := []) mfX6_init miX6_init rfl rfl mlX2_21 dX2_init_49 (kX6_init G _ _) ⟨Nat.le_of_ble_eq_true rfl, Nat.le_of_ble_eq_true rfl⟩ ⟨Nat.le_of_ble_eq_true rfl, Nat.le_of_ble_eq_true rfl⟩ rfl (Nat.le_of_ble_eq_true rfl) (fun _ σ249 _ => ?_)
  refine hj_aast6 dX2_init_52 (fun σ250 _ => ?_)
  refine hj_iincK (lv' := [(0, .ref a0), (1, .int (48 : Int32))]) 1 (48 : Int32) dX2_init_53 rfl (by decide) (by decide) [1, 0] rfl ?_
  refine hj_goto 34 dX2_init_56 (by decide) ?_
  refine hj_iload_n 1 dX2_init_34 rfl ?_
  refine hj_bipush (64 : Int32) dX2_init_35 (by decide) ?_
  refine hj_icmp_ge_F 59 dX2_init_37 (by decide) (by decide) ?_
  refine hj_aload_n 0 dX2_init_40 rfl ?_
  refine hj_getR flX2_11 dX2_init_41 (fun t251 _ => ?_)
  refine hj_iload_n 1 dX2_init_44 rfl ?_
  refine hj_new [.long 0, .long 0] tyX6 clX2_9 itX6 izX6 rfl cfX6 tyX6_ok (by decide +kernel) (fun _ => rfl) dX2_init_45 (Nat.le_of_ble_eq_true rfl) (Nat.le_of_ble_eq_true rfl) (fun q252 σ253 => ?_)
  refine hj_dup dX2_init_48 rfl ?_
  refine hj_callI (M' := mX6_init) (h' := 1) (mc' := 0) (ms' := 0) (As := []) mfX6_init miX6_init rfl rfl mlX2_21 dX2_init_49 (kX6_init G _ _) ⟨Nat.le_of_ble_eq_true rfl, Nat.le_of_ble_eq_true rfl⟩ ⟨Nat.le_of_ble_eq_true rfl, Nat.le_of_ble_eq_true rfl⟩ rfl (Nat.le_of_ble_eq_true rfl) (fun _ σ254 _ => ?_)
  refine hj_aast6 dX2_init_52 (fun σ255 _ => ?_)
  refine hj_iincK (lv' := [(0, .ref a0), (1, .int (49 : Int32))]) 1 (49 : Int32) dX2_init_53 rfl (by decide) (by decide) [1, 0] rfl ?_
  refine hj_goto 34 dX2_init_56 (by decide) ?_
  refine hj_iload_n 1 dX2_init_34 rfl ?_
  refine hj_bipush (64 : Int32) dX2_init_35 (by decide) ?_
  refine hj_icmp_ge_F 59 dX2_init_37 (by decide) (by decide) ?_
  refine hj_aload_n 0 dX2_init_40 rfl ?_
  refine hj_getR flX2_11 dX2_init_41 (fun t256 _ => ?_)
  refine hj_iload_n 1 dX2_init_44 rfl ?_
  refine hj_new [.long 0, .long 0] tyX6 clX2_9 itX6 izX6 rfl cfX6 tyX6_ok (by decide +kernel) (fun _ => rfl) dX2_init_45 (Nat.le_of_ble_eq_true rfl) (Nat.le_of_ble_eq_true rfl) (fun q257 σ258 => ?_)
  refine hj_dup dX2_init_48 rfl ?_
  refine hj_callI (M' := mX6_init) (h' := 1) (mc' := 0) (ms' := 0) (As := []) mfX6_init miX6_init rfl rfl mlX2_21 dX2_init_49 (kX6_init G _ _) ⟨Nat.le_of_ble_eq_true rfl, Nat.le_of_ble_eq_true rfl⟩ ⟨Nat.le_of_ble_eq_true rfl, Nat.le_of_ble_eq_true rfl⟩ rfl (Nat.le_of_ble_eq_true rfl) (fun _ σ259 _ => ?_)
  refine hj_aast6 dX2_init_52 (fun σ260 _ => ?_)
  refine hj_iincK (lv' := [(0, .ref a0), (1, .int (50 : Int32))]) 1 (50 : Int32) dX2_init_53 rfl (by decide) (by decide) [1, 0] rfl ?_
  refine hj_goto 34 dX2_init_56 (by decide) ?_
  refine hj_iload_n 1 dX2_init_34 rfl ?_
  refine hj_bipush (64 : Int32) dX2_init_35 (by decide) ?_
  refine hj_icmp_ge_F 59 dX2_init_37 (by decide) (by decide) ?_
  refine hj_aload_n 0 dX2_init_40 rfl ?_
  refine hj_getR flX2_11 dX2_init_41 (fun t261 _ => ?_)
  refine hj_iload_n 1 dX2_init_44 rfl ?_
  refine hj_new [.long 0, .long 0] tyX6 clX2_9 itX6 izX6 rfl cfX6 tyX6_ok (by decide +kernel) (fun _ => rfl) dX2_init_45 (Nat.le_of_ble_eq_true rfl) (Nat.le_of_ble_eq_true rfl) (fun q262 σ263 => ?_)
  refine hj_dup dX2_init_48 rfl ?_
  refine hj_callI (M' := mX6_init) (h' := 1) (mc' := 0) (ms' := 0) (As := []) mfX6_init miX6_init rfl rfl mlX2_21 dX2_init_49 (kX6_init G _ _) ⟨Nat.le_of_ble_eq_true rfl, Nat.le_of_ble_eq_true rfl⟩ ⟨Nat.le_of_ble_eq_true rfl, Nat.le_of_ble_eq_true rfl⟩ rfl (Nat.le_of_ble_eq_true rfl) (fun _ σ264 _ => ?_)
  refine hj_aast6 dX2_init_52 (fun σ265 _ => ?_)
  refine hj_iincK (lv' := [(0, .ref a0), (1, .int (51 : Int32))]) 1 (51 : Int32) dX2_init_53 rfl (by decide) (by decide) [1, 0] rfl ?_
  refine hj_goto 34 dX2_init_56 (by decide) ?_
  refine hj_iload_n 1 dX2_init_34 rfl ?_
  refine hj_bipush (64 : Int32) dX2_init_35 (by decide) ?_
  refine hj_icmp_ge_F 59 dX2_init_37 (by decide) (by decide) ?_
  refine hj_aload_n 0 dX2_init_40 rfl ?_
  refine hj_getR flX2_11 dX2_init_41 (fun t266 _ => ?_)
  refine hj_iload_n 1 dX2_init_44 rfl ?_
  refine hj_new [.long 0, .long 0] tyX6 clX2_9 itX6 izX6 rfl cfX6 tyX6_ok (by decide +kernel) (fun _ => rfl) dX2_init_45 (Nat.le_of_ble_eq_true rfl) (Nat.le_of_ble_eq_true rfl) (fun q267 σ268 => ?_)
  refine hj_dup dX2_init_48 rfl ?_
  refine hj_callI (M' := mX6_init) (h' := 1) (mc' := 0) (ms' := 0) (As := []) mfX6_init miX6_init rfl rfl mlX2_21 dX2_init_49 (kX6_init G _ _) ⟨Nat.le_of_ble_eq_true rfl, Nat.le_of_ble_eq_true rfl⟩ ⟨Nat.le_of_ble_eq_true rfl, Nat.le_of_ble_eq_true rfl⟩ rfl (Nat.le_of_ble_eq_true rfl) (fun _ σ269 _ => ?_)
  refine hj_aast6 dX2_init_52 (fun σ270 _ => ?_)
  refine hj_iincK (lv' := [(0, .ref a0), (1, .int (52 : Int32))]) 1 (52 : Int32) dX2_init_53 rfl (by decide) (by decide) [1, 0] rfl ?_
  refine hj_goto 34 dX2_init_56 (by decide) ?_
  refine hj_iload_n 1 dX2_init_34 rfl ?_
  refine hj_bipush (64 : Int32) dX2_init_35 (by decide) ?_
  refine hj_icmp_ge_F 59 dX2_init_37 (by decide) (by decide) ?_
  refine hj_aload_n 0 dX2_init_40 rfl ?_
  refine hj_getR flX2_11 dX2_init_41 (fun t271 _ => ?_)
  refine hj_iload_n 1 dX2_init_44 rfl ?_
  refine hj_new [.long 0, .long 0] tyX6 clX2_9 itX6 izX6 rfl cfX6 tyX6_ok (by decide +kernel) (fun _ => rfl) dX2_init_45 (Nat.le_of_ble_eq_true rfl) (Nat.le_of_ble_eq_true rfl) (fun q272 σ273 => ?_)
  refine hj_dup dX2_init_48 rfl ?_
  refine hj_callI (M' := mX6_init) (h' := 1) (mc' := 0) (ms' := 0) (As := []) mfX6_init miX6_init rfl rfl mlX2_21 dX2_init_49 (kX6_init G _ _) ⟨Nat.le_of_ble_eq_true rfl, Nat.le_of_ble_eq_true rfl⟩ ⟨Nat.le_of_ble_eq_true rfl, Nat.le_of_ble_eq_true rfl⟩ rfl (Nat.le_of_ble_eq_true rfl) (fun _ σ274 _ => ?_)
  refine hj_aast6 dX2_init_52 (fun σ275 _ => ?_)
  refine hj_iincK (lv' := [(0, .ref a0), (1, .int (53 : Int32))]) 1 (53 : Int32) dX2_init_53 rfl (by decide) (by decide) [1, 0] rfl ?_
  refine hj_goto 34 dX2_init_56 (by decide) ?_
  refine hj_iload_n 1 dX2_init_34 rfl ?_
  refine hj_bipush (64 : Int32) dX2_init_35 (by decide) ?_
  refine hj_icmp_ge_F 59 dX2_init_37 (by decide) (by decide) ?_
  refine hj_aload_n 0 dX2_init_40 rfl ?_
  refine hj_getR flX2_11 dX2_init_41 (fun t276 _ => ?_)
  refine hj_iload_n 1 dX2_init_44 rfl ?_
  refine hj_new [.long 0, .long 0] tyX6 clX2_9 itX6 izX6 rfl cfX6 tyX6_ok (by decide +kernel) (fun _ => rfl) dX2_init_45 (Nat.le_of_ble_eq_true rfl) (Nat.le_of_ble_eq_true rfl) (fun q277 σ278 => ?_)
  refine hj_dup dX2_init_48 rfl ?_
  refine hj_callI (M' := mX6_init) (h' := 1) (mc' := 0) (ms' := 0) (As := []) mfX6_init miX6_init rfl rfl mlX2_21 dX2_init_49 (kX6_init G _ _) ⟨Nat.le_of_ble_eq_true rfl, Nat.le_of_ble_eq_true rfl⟩ ⟨Nat.le_of_ble_eq_true rfl, Nat.le_of_ble_eq_true rfl⟩ rfl (Nat.le_of_ble_eq_true rfl) (fun _ σ279 _ => ?_)
  refine hj_aast6 dX2_init_52 (fun σ280 _ => ?_)
  refine hj_iincK (lv' := [(0, .ref a0), (1, .int (54 : Int32))]) 1 (54 : Int32) dX2_init_53 rfl (by decide) (by decide) [1, 0] rfl ?_
  refine hj_goto 34 dX2_init_56 (by decide) ?_
  refine hj_iload_n 1 dX2_init_34 rfl ?_
  refine hj_bipush (64 : Int32) dX2_init_35 (by decide) ?_
  refine hj_icmp_ge_F 59 dX2_init_37 (by decide) (by decide) ?_
  refine hj_aload_n 0 dX2_init_40 rfl ?_
  refine hj_getR flX2_11 dX2_init_41 (fun t281 _ => ?_)
  refine hj_iload_n 1 dX2_init_44 rfl ?_
  refine hj_new [.long 0, .long 0] tyX6 clX2_9 itX6 izX6 rfl cfX6 tyX6_ok (by decide +kernel) (fun _ => rfl) dX2_init_45 (Nat.le_of_ble_eq_true rfl) (Nat.le_of_ble_eq_true rfl) (fun q282 σ283 => ?_)
  refine hj_dup dX2_init_48 rfl ?_
  refine hj_callI (M' := mX6_init) (h' := 1) (mc' := 0) (ms' := 0) (As := []) mfX6_init miX6_init rfl rfl mlX2_21 dX2_init_49 (kX6_init G _ _) ⟨Nat.le_of_ble_eq_true rfl, Nat.le_of_ble_eq_true rfl⟩ ⟨Nat.le_of_ble_eq_true rfl, Nat.le_of_ble_eq_true rfl⟩ rfl (Nat.le_of_ble_eq_true rfl) (fun _ σ284 _ => ?_)
  refine hj_aast6 dX2_init_52 (fun σ285 _ => ?_)
  refine hj_iincK (lv' := [(0, .ref a0), (1, .int (55 : Int32))]) 1 (55 : Int32) dX2_init_53 rfl (by decide) (by decide) [1, 0] rfl ?_
  refine hj_goto 34 dX2_init_56 (by decide) ?_
  refine hj_iload_n 1 dX2_init_34 rfl ?_
  refine hj_bipush (64 : Int32) dX2_init_35 (by decide) ?_
  refine hj_icmp_ge_F 59 dX2_init_37 (by decide) (by decide) ?_
  refine hj_aload_n 0 dX2_init_40 rfl ?_
  refine hj_getR flX2_11 dX2_init_41 (fun t286 _ => ?_)
  refine hj_iload_n 1 dX2_init_44 rfl ?_
  refine hj_new [.long 0, .long 0] tyX6 clX2_9 itX6 izX6 rfl cfX6 tyX6_ok (by decide +kernel) (fun _ => rfl) dX2_init_45 (Nat.le_of_ble_eq_true rfl) (Nat.le_of_ble_eq_true rfl) (fun q287 σ288 => ?_)
  refine hj_dup dX2_init_48 rfl ?_
  refine hj_callI (M' := mX6_init) (h' := 1) (mc' := 0) (ms' := 0) (As := []) mfX6_init miX6_init rfl rfl mlX2_21 dX2_init_49 (kX6_init G _ _) ⟨Nat.le_of_ble_eq_true rfl, Nat.le_of_ble_eq_true rfl⟩ ⟨Nat.le_of_ble_eq_true rfl, Nat.le_of_ble_eq_true rfl⟩ rfl (Nat.le_of_ble_eq_true rfl) (fun _ σ289 _ => ?_)
  refine hj_aast6 dX2_init_52 (fun σ290 _ => ?_)
  refine hj_iincK (lv' := [(0, .ref a0), (1, .int (56 : Int32))]) 1 (56 : Int32) dX2_init_53 rfl (by decide) (by decide) [1, 0] rfl ?_
  refine hj_goto 34 dX2_init_56 (by decide) ?_
  refine hj_iload_n 1 dX2_init_34 rfl ?_
  refine hj_bipush (64 : Int32) dX2_init_35 (by decide) ?_
  refine hj_icmp_ge_F 59 dX2_init_37 (by decide) (by decide) ?_
  refine hj_aload_n 0 dX2_init_40 rfl ?_
  refine hj_getR flX2_11 dX2_init_41 (fun t291 _ => ?_)
  refine hj_iload_n 1 dX2_init_44 rfl ?_
  refine hj_new [.long 0, .long 0] tyX6 clX2_9 itX6 izX6 rfl cfX6 tyX6_ok (by decide +kernel) (fun _ => rfl) dX2_init_45 (Nat.le_of_ble_eq_true rfl) (Nat.le_of_ble_eq_true rfl) (fun q292 σ293 => ?_)
  refine hj_dup dX2_init_48 rfl ?_
  refine hj_callI (M' := mX6_init) (h' := 1) (mc' := 0) (ms' := 0) (As := []) mfX6_init miX6_init rfl rfl mlX2_21 dX2_init_49 (kX6_init G _ _) ⟨Nat.le_of_ble_eq_true rfl, Nat.le_of_ble_eq_true rfl⟩ ⟨Nat.le_of_ble_eq_true rfl, Nat.le_of_ble_eq_true rfl⟩ rfl (Nat.le_of_ble_eq_true rfl) (fun _ σ294 _ => ?_)
  refine hj_aast6 dX2_init_52 (fun σ295 _ => ?_)
  refine hj_iincK (lv' := [(0, .ref a0), (1, .int (57 : Int32))]) 1 (57 : Int32) dX2_init_53 rfl (by decide) (by decide) [1, 0] rfl ?_
  refine hj_goto 34 dX2_init_56 (by decide) ?_
  refine hj_iload_n 1 dX2_init_34 rfl ?_
  refine hj_bipush (64 : Int32) dX2_init_35 (by decide) ?_
  refine hj_icmp_ge_F 59 dX2_init_37 (by decide) (by decide) ?_
  refine hj_aload_n 0 dX2_init_40 rfl ?_
  refine hj_getR flX2_11 dX2_init_41 (fun t296 _ => ?_)
  refine hj_iload_n 1 dX2_init_44 rfl ?_
  refine hj_new [.long 0, .long 0] tyX6 clX2_9 itX6 izX6 rfl cfX6 tyX6_ok (by decide +kernel) (fun _ => rfl) dX2_init_45 (Nat.le_of_ble_eq_true rfl) (Nat.le_of_ble_eq_true rfl) (fun q297 σ298 => ?_)
  refine hj_dup dX2_init_48 rfl ?_
  refine hj_callI (M' := mX6_init) (h' := 1) (mc' := 0) (ms' := 0) (As := []) mfX6_init miX6_init rfl rfl mlX2_21 dX2_init_49 (kX6_init G _ _) ⟨Nat.le_of_ble_eq_true rfl, Nat.le_of_ble_eq_true rfl⟩ ⟨Nat.le_of_ble_eq_true rfl, Nat.le_of_ble_eq_true rfl⟩ rfl (Nat.le_of_ble_eq_true rfl) (fun _ σ299 _ => ?_)
  refine hj_aast6 dX2_init_52 (fun σ300 _ => ?_)
  refine hj_iincK (lv' := [(0, .ref a0), (1, .int (58 : Int32))]) 1 (58 : Int32) dX2_init_53 rfl (by decide) (by decide) [1, 0] rfl ?_
  refine hj_goto 34 dX2_init_56 (by decide) ?_
  refine hj_iload_n 1 dX2_init_34 rfl ?_
  refine hj_bipush (64 : Int32) dX2_init_35 (by decide) ?_
  refine hj_icmp_ge_F 59 dX2_init_37 (by decide) (by decide) ?_
  refine hj_aload_n 0 dX2_init_40 rfl ?_
  refine hj_getR flX2_11 dX2_init_41 (fun t301 _ => ?_)
  refine hj_iload_n 1 dX2_init_44 rfl ?_
  refine hj_new [.long 0, .long 0] tyX6 clX2_9 itX6 izX6 rfl cfX6 tyX6_ok (by decide +kernel) (fun _ => rfl) dX2_init_45 (Nat.le_of_ble_eq_true rfl) (Nat.le_of_ble_eq_true rfl) (fun q302 σ303 => ?_)
  refine hj_dup dX2_init_48 rfl ?_
  refine hj_callI (M' := mX6_init) (h' := 1) (mc' := 0) (ms' := 0) (As := []) mfX6_init miX6_init rfl rfl mlX2_21 dX2_init_49 (kX6_init G _ _) ⟨Nat.le_of_ble_eq_true rfl, Nat.le_of_ble_eq_true rfl⟩ ⟨Nat.le_of_ble_eq_true rfl, Nat.le_of_ble_eq_true rfl⟩ rfl (Nat.le_of_ble_eq_true rfl) (fun _ σ304 _ => ?_)
  refine hj_aast6 dX2_init_52 (fun σ305 _ => ?_)
  refine hj_iincK (lv' := [(0, .ref a0), (1, .int (59 : Int32))]) 1 (59 : Int32) dX2_init_53 rfl (by decide) (by decide) [1, 0] rfl ?_
  refine hj_goto 34 dX2_init_56 (by decide) ?_
  refine hj_iload_n 1 dX2_init_34 rfl ?_
  refine hj_bipush (64 : Int32) dX2_init_35 (by decide) ?_
  refine hj_icmp_ge_F 59 dX2_init_37 (by decide) (by decide) ?_
  refine hj_aload_n 0 dX2_init_40 rfl ?_
  refine hj_getR flX2_11 dX2_init_41 (fun t306 _ => ?_)
  refine hj_iload_n 1 dX2_init_44 rfl ?_
  refine hj_new [.long 0, .long 0] tyX6 clX2_9 itX6 izX6 rfl cfX6 tyX6_ok (by decide +kernel) (fun _ => rfl) dX2_init_45 (Nat.le_of_ble_eq_true rfl) (Nat.le_of_ble_eq_true rfl) (fun q307 σ308 => ?_)
  refine hj_dup dX2_init_48 rfl ?_
  refine hj_callI (M' := mX6_init) (h' := 1) (mc' := 0) (ms' := 0) (As := []) mfX6_init miX6_init rfl rfl mlX2_21 dX2_init_49 (kX6_init G _ _) ⟨Nat.le_of_ble_eq_true rfl, Nat.le_of_ble_eq_true rfl⟩ ⟨Nat.le_of_ble_eq_true rfl, Nat.le_of_ble_eq_true rfl⟩ rfl (Nat.le_of_ble_eq_true rfl) (fun _ σ309 _ => ?_)
  refine hj_aast6 dX2_init_52 (fun σ310 _ => ?_)
  refine hj_iincK (lv' := [(0, .ref a0), (1, .int (60 : Int32))]) 1 (60 : Int32) dX2_init_53 rfl (by decide) (by decide) [1, 0] rfl ?_
  refine hj_goto 34 dX2_init_56 (by decide) ?_
  refine hj_iload_n 1 dX2_init_34 rfl ?_
  refine hj_bipush (64 : Int32) dX2_init_35 (by decide) ?_
  refine hj_icmp_ge_F 59 dX2_init_37 (by decide) (by decide) ?_
  refine hj_aload_n 0 dX2_init_40 rfl ?_
  refine hj_getR flX2_11 dX2_init_41 (fun t311 _ => ?_)
  refine hj_iload_n 1 dX2_init_44 rfl ?_
  refine hj_new [.long 0, .long 0] tyX6 clX2_9 itX6 izX6 rfl cfX6 tyX6_ok (by decide +kernel) (fun _ => rfl) dX2_init_45 (Nat.le_of_ble_eq_true rfl) (Nat.le_of_ble_eq_true rfl) (fun q312 σ313 => ?_)
  refine hj_dup dX2_init_48 rfl ?_
  refine hj_callI (M' := mX6_init) (h' := 1) (mc' := 0) (ms' := 0) (As := []) mfX6_init miX6_init rfl rfl mlX2_21 dX2_init_49 (kX6_init G _ _) ⟨Nat.le_of_ble_eq_true rfl, Nat.le_of_ble_eq_true rfl⟩ ⟨Nat.le_of_ble_eq_true rfl, Nat.le_of_ble_eq_true rfl⟩ rfl (Nat.le_of_ble_eq_true rfl) (fun _ σ314 _ => ?_)
  refine hj_aast6 dX2_init_52 (fun σ315 _ => ?_)
  refine hj_iincK (lv' := [(0, .ref a0), (1, .int (61 : Int32))]) 1 (61 : Int32) dX2_init_53 rfl (by decide) (by decide) [1, 0] rfl ?_
  refine hj_goto 34 dX2_init_56 (by decide) ?_
  refine hj_iload_n 1 dX2_init_34 rfl ?_
  refine hj_bipush (64 : Int32) dX2_init_35 (by decide) ?_
  refine hj_icmp_ge_F 59 dX2_init_37 (by decide) (by decide) ?_
  refine hj_aload_n 0 dX2_init_40 rfl ?_
  refine hj_getR flX2_11 dX2_init_41 (fun t316 _ => ?_)
  refine hj_iload_n 1 dX2_init_44 rfl ?_
  refine hj_new [.long 0, .long 0] tyX6 clX2_9 itX6 izX6 rfl cfX6 tyX6_ok (by decide +kernel) (fun _ => rfl) dX2_init_45 (Nat.le_of_ble_eq_true rfl) (Nat.le_of_ble_eq_true rfl) (fun q317 σ318 => ?_)
  refine hj_dup dX2_init_48 rfl ?_
  refine hj_callI (M' := mX6_init) (h' := 1) (mc' := 0) (ms' := 0) (As := []) mfX6_init miX6_init rfl rfl mlX2_21 dX2_init_49 (kX6_init G _ _) ⟨Nat.le_of_ble_eq_true rfl, Nat.le_of_ble_eq_true rfl⟩ ⟨Nat.le_of_ble_eq_true rfl, Nat.le_of_ble_eq_true rfl⟩ rfl (Nat.le_of_ble_eq_true rfl) (fun _ σ319 _ => ?_)
  refine hj_aast6 dX2_init_52 (fun σ320 _ => ?_)
  refine hj_iincK (lv' := [(0, .ref a0), (1, .int (62 : Int32))]) 1 (62 : Int32) dX2_init_53 rfl (by decide) (by decide) [1, 0] rfl ?_
  refine hj_goto 34 dX2_init_56 (by decide) ?_
  refine hj_iload_n 1 dX2_init_34 rfl ?_
  refine hj_bipush (64 : Int32) dX2_init_35 (by decide) ?_
  refine hj_icmp_ge_F 59 dX2_init_37 (by decide) (by decide) ?_
  refine hj_aload_n 0 dX2_init_40 rfl ?_
  refine hj_getR flX2_11 dX2_init_41 (fun t321 _ => ?_)
  refine hj_iload_n 1 dX2_init_44 rfl ?_
  refine hj_new [.long 0, .long 0] tyX6 clX2_9 itX6 izX6 rfl cfX6 tyX6_ok (by decide +kernel) (fun _ => rfl) dX2_init_45 (Nat.le_of_ble_eq_true rfl) (Nat.le_of_ble_eq_true rfl) (fun q322 σ323 => ?_)
  refine hj_dup dX2_init_48 rfl ?_
  refine hj_callI (M' := mX6_init) (h' := 1) (mc' := 0) (ms' := 0) (As := []) mfX6_init miX6_init rfl rfl mlX2_21 dX2_init_49 (kX6_init G _ _) ⟨Nat.le_of_ble_eq_true rfl, Nat.le_of_ble_eq_true rfl⟩ ⟨Nat.le_of_ble_eq_true rfl, Nat.le_of_ble_eq_true rfl⟩ rfl (Nat.le_of_ble_eq_true rfl) (fun _ σ324 _ => ?_)
  refine hj_aast6 dX2_init_52 (fun σ325 _ => ?_)
  refine hj_iincK (lv' := [(0, .ref a0), (1, .int (63 : Int32))]) 1 (63 : Int32) dX2_init_53 rfl (by decide) (by decide) [1, 0] rfl ?_
  refine hj_goto 34 dX2_init_56 (by decide) ?_
  refine hj_iload_n 1 dX2_init_34 rfl ?_
  refine hj_bipush (64 : Int32) dX2_init_35 (by decide) ?_
  refine hj_icmp_ge_F 59 dX2_init_37 (by decide) (by decide) ?_
  refine hj_aload_n 0 dX2_init_40 rfl ?_
  refine hj_getR flX2_11 dX2_init_41 (fun t326 _ => ?_)
  refine hj_iload_n 1 dX2_init_44 rfl ?_
  refine hj_new [.long 0, .long 0] tyX6 clX2_9 itX6 izX6 rfl cfX6 tyX6_ok (by decide +kernel) (fun _ => rfl) dX2_init_45 (Nat.le_of_ble_eq_true rfl) (Nat.le_of_ble_eq_true rfl) (fun q327 σ328 => ?_)
  refine hj_dup dX2_init_48 rfl ?_
  refine hj_callI (M' := mX6_init) (h' := 1) (mc' := 0) (ms' := 0) (As := []) mfX6_init miX6_init rfl rfl mlX2_21 dX2_init_49 (kX6_init G _ _) ⟨Nat.le_of_ble_eq_true rfl, Nat.le_of_ble_eq_true rfl⟩ ⟨Nat.le_of_ble_eq_true rfl, Nat.le_of_ble_eq_true rfl⟩ rfl (Nat.le_of_ble_eq_true rfl) (fun _ σ329 _ => ?_)
  refine hj_aast6 dX2_init_52 (fun σ330 _ => ?_)
  refine hj_iincK (lv' := [(0, .ref a0), (1, .int (64 : Int32))]) 1 (64 : Int32) dX2_init_53 rfl (by decide) (by decide) [1, 0] rfl ?_
  refine hj_goto 34 dX2_init_56 (by decide) ?_
  refine hj_iload_n 1 dX2_init_34 rfl ?_
  refine hj_bipush (64 : Int32) dX2_init_35 (by decide) ?_
  refine hj_icmp_ge_T 59 dX2_init_37 (by decide) (by decide) ?_
  exact hj_vret dX2_init_59 rfl rfl (Nat.le_of_ble_eq_true rfl)
set_option maxRecDepth 20000 in
def fX3_init (a0 : Nat) (a1 : Nat) (a2 : Nat) (σ : Sto) : Option (Unit × Sto) := ((pV σ 3 a0 2 (.int ((0 : Int32)))).bind fun σ1 => ((pV σ1 3 a0 3 (.int ((0 : Int32)))).bind fun σ2 => ((pV σ2 3 a0 4 (.int ((-1 : Int32)))).bind fun σ3 => ((pV σ3 3 a0 5 (.int ((0 : Int32)))).bind fun σ4 => ((pV σ4 3 a0 6 (.int ((-1 : Int32)))).bind fun σ5 => ((pV σ5 3 a0 7 (.int ((0 : Int32)))).bind fun σ6 => ((pV σ6 3 a0 8 (.int ((0 : Int32)))).bind fun σ7 => ((pV σ7 3 a0 0 (.ref a1)).bind fun σ8 => ((pV σ8 3 a0 1 (.ref a2)).bind fun σ9 => (some ((), σ9)))))))))))
set_option maxHeartbeats 8000000 in
set_option maxRecDepth 20000 in
theorem kX3_init (G : GP) (a0 : Nat) (a1 : Nat) (a2 : Nat) (σ : Sto) : Me G mX3_init 1 0 0 jV [.ref a0, .ref a1, .ref a2] σ (fX3_init a0 a1 a2 σ) := by
  refine hs_me (lv := [(0, .ref a0), (1, .ref a1), (2, .ref a2)]) (plainFor_of_name (by decide +kernel)) (Nat.le_of_ble_eq_true rfl) rfl ?_
  unfold fX3_init
  refine hj_aload_n 0 dX3_init_0 rfl ?_
  refine hj_oinit olX3_3 oo_i oo_c dX3_init_1 (Nat.le_of_ble_eq_true rfl) (Nat.le_of_ble_eq_true rfl) ?_
  refine hj_aload_n 0 dX3_init_4 rfl ?_
  refine hj_iconst (0 : Int32) dX3_init_5 (by decide) ?_
  refine hj_put (fpX3_9 _) (fun _ => rfl) (fun _ => rfl) dX3_init_6 (fun σ1 _ => ?_)
  refine hj_aload_n 0 dX3_init_9 rfl ?_
  refine hj_iconst (0 : Int32) dX3_init_10 (by decide) ?_
  refine hj_put (fpX3_15 _) (fun _ => rfl) (fun _ => rfl) dX3_init_11 (fun σ2 _ => ?_)
  refine hj_aload_n 0 dX3_init_14 rfl ?_
  refine hj_iconst (-1 : Int32) dX3_init_15 (by decide) ?_
  refine hj_put (fpX3_18 _) (fun _ => rfl) (fun _ => rfl) dX3_init_16 (fun σ3 _ => ?_)
  refine hj_aload_n 0 dX3_init_19 rfl ?_
  refine hj_iconst (0 : Int32) dX3_init_20 (by decide) ?_
  refine hj_put (fpX3_21 _) (fun _ => rfl) (fun _ => rfl) dX3_init_21 (fun σ4 _ => ?_)
  refine hj_aload_n 0 dX3_init_24 rfl ?_
  refine hj_iconst (-1 : Int32) dX3_init_25 (by decide) ?_
  refine hj_put (fpX3_24 _) (fun _ => rfl) (fun _ => rfl) dX3_init_26 (fun σ5 _ => ?_)
  refine hj_aload_n 0 dX3_init_29 rfl ?_
  refine hj_iconst (0 : Int32) dX3_init_30 (by decide) ?_
  refine hj_put (fpX3_27 _) (fun _ => rfl) (fun _ => rfl) dX3_init_31 (fun σ6 _ => ?_)
  refine hj_aload_n 0 dX3_init_34 rfl ?_
  refine hj_iconst (0 : Int32) dX3_init_35 (by decide) ?_
  refine hj_put (fpX3_30 _) (fun _ => rfl) (fun _ => rfl) dX3_init_36 (fun σ7 _ => ?_)
  refine hj_aload_n 0 dX3_init_39 rfl ?_
  refine hj_aload_n 1 dX3_init_40 rfl ?_
  refine hj_put fpX3_33 (fun _ => rfl) (fun _ => rfl) dX3_init_41 (fun σ8 _ => ?_)
  refine hj_aload_n 0 dX3_init_44 rfl ?_
  refine hj_aload_n 2 dX3_init_45 rfl ?_
  refine hj_put (fpX3_37 _) (fun _ => rfl) (fun _ => rfl) dX3_init_46 (fun σ9 _ => ?_)
  exact hj_vret dX3_init_49 rfl rfl (Nat.le_of_ble_eq_true rfl)
set_option maxRecDepth 20000 in
def fX4_init (a0 : Nat) (σ : Sto) : Option (Unit × Sto) := ((pV σ 4 a0 0 (.int ((0 : Int32)))).bind fun σ1 => ((pV σ1 4 a0 1 (.int ((0 : Int32)))).bind fun σ2 => (nw σ2 (.inl (2, (50, .inl (fun _ => 0)))) fun q3 σ4 => ((pV σ4 4 a0 2 (.ref q3)).bind fun σ5 => (nw σ5 (.inl (2, (50, .inl (fun _ => 0)))) fun q6 σ7 => ((pV σ7 4 a0 3 (.ref q6)).bind fun σ8 => (nw σ8 (.inl (2, (50, .inl (fun _ => 0)))) fun q9 σ10 => ((pV σ10 4 a0 4 (.ref q9)).bind fun σ11 => (nw σ11 (.inl (4, (50, .inl (fun _ => 0)))) fun q12 σ13 => ((pV σ13 4 a0 5 (.ref q12)).bind fun σ14 => (some ((), σ14))))))))))))
set_option maxHeartbeats 8000000 in
set_option maxRecDepth 20000 in
theorem kX4_init (G : GP) (a0 : Nat) (σ : Sto) : Me G mX4_init 1 4 200 jV [.ref a0] σ (fX4_init a0 σ) := by
  refine hs_me (lv := [(0, .ref a0)]) (plainFor_of_name (by decide +kernel)) (Nat.le_of_ble_eq_true rfl) rfl ?_
  unfold fX4_init
  refine hj_aload_n 0 dX4_init_0 rfl ?_
  refine hj_oinit olX4_3 oo_i oo_c dX4_init_1 (Nat.le_of_ble_eq_true rfl) (Nat.le_of_ble_eq_true rfl) ?_
  refine hj_aload_n 0 dX4_init_4 rfl ?_
  refine hj_iconst (0 : Int32) dX4_init_5 (by decide) ?_
  refine hj_put (fpX4_9 _) (fun _ => rfl) (fun _ => rfl) dX4_init_6 (fun σ1 _ => ?_)
  refine hj_aload_n 0 dX4_init_9 rfl ?_
  refine hj_iconst (0 : Int32) dX4_init_10 (by decide) ?_
  refine hj_put (fpX4_15 _) (fun _ => rfl) (fun _ => rfl) dX4_init_11 (fun σ2 _ => ?_)
  refine hj_aload_n 0 dX4_init_14 rfl ?_
  refine hj_bipush (50 : Int32) dX4_init_15 (by decide) ?_
  refine hj_newa (t := 2) (N := 50) (ty := .int) (50, .inl (fun _ => 0)) ac_int rfl (fun _ => rfl) (fun _ _ _ h1 h2 => Option.some.inj (h1.symm.trans h2)) (fun _ => rfl) (fun _ => rfl) (by decide) (by decide) (by decide) dX4_init_17 (Nat.le_of_ble_eq_true rfl) (Nat.le_of_ble_eq_true rfl) (fun q3 σ4 => ?_)
  refine hj_put fpX4_18 (fun _ => rfl) (fun _ => rfl) dX4_init_19 (fun σ5 _ => ?_)
  refine hj_aload_n 0 dX4_init_22 rfl ?_
  refine hj_bipush (50 : Int32) dX4_init_23 (by decide) ?_
  refine hj_newa (t := 2) (N := 50) (ty := .int) (50, .inl (fun _ => 0)) ac_int rfl (fun _ => rfl) (fun _ _ _ h1 h2 => Option.some.inj (h1.symm.trans h2)) (fun _ => rfl) (fun _ => rfl) (by decide) (by decide) (by decide) dX4_init_25 (Nat.le_of_ble_eq_true rfl) (Nat.le_of_ble_eq_true rfl) (fun q6 σ7 => ?_)
  refine hj_put fpX4_22 (fun _ => rfl) (fun _ => rfl) dX4_init_27 (fun σ8 _ => ?_)
  refine hj_aload_n 0 dX4_init_30 rfl ?_
  refine hj_bipush (50 : Int32) dX4_init_31 (by decide) ?_
  refine hj_newa (t := 2) (N := 50) (ty := .int) (50, .inl (fun _ => 0)) ac_int rfl (fun _ => rfl) (fun _ _ _ h1 h2 => Option.some.inj (h1.symm.trans h2)) (fun _ => rfl) (fun _ => rfl) (by decide) (by decide) (by decide) dX4_init_33 (Nat.le_of_ble_eq_true rfl) (Nat.le_of_ble_eq_true rfl) (fun q9 σ10 => ?_)
  refine hj_put fpX4_25 (fun _ => rfl) (fun _ => rfl) dX4_init_35 (fun σ11 _ => ?_)
  refine hj_aload_n 0 dX4_init_38 rfl ?_
  refine hj_bipush (50 : Int32) dX4_init_39 (by decide) ?_
  refine hj_newa (t := 4) (N := 50) (ty := .boolean) (50, .inl (fun _ => 0)) ac_boolean rfl (fun _ => rfl) (fun _ _ _ h1 h2 => Option.some.inj (h1.symm.trans h2)) (fun _ => rfl) (fun _ => rfl) (by decide) (by decide) (by decide) dX4_init_41 (Nat.le_of_ble_eq_true rfl) (Nat.le_of_ble_eq_true rfl) (fun q12 σ13 => ?_)
  refine hj_put fpX4_28 (fun _ => rfl) (fun _ => rfl) dX4_init_43 (fun σ14 _ => ?_)
  exact hj_vret dX4_init_46 rfl rfl (Nat.le_of_ble_eq_true rfl)
set_option maxRecDepth 20000 in
def fX5_init (a0 : Nat) (σ : Sto) : Option (Unit × Sto) := ((pV σ 5 a0 0 (.int ((0 : Int32)))).bind fun σ1 => (nw σ1 (.inl (2, (6, .inl (fun _ => 0)))) fun q2 σ3 => ((pV σ3 5 a0 1 (.ref q2)).bind fun σ4 => (nw σ4 (.inl (2, (6, .inl (fun _ => 0)))) fun q5 σ6 => ((pV σ6 5 a0 2 (.ref q5)).bind fun σ7 => (nw σ7 (.inl (4, (6, .inl (fun _ => 0)))) fun q8 σ9 => ((pV σ9 5 a0 3 (.ref q8)).bind fun σ10 => (some ((), σ10)))))))))
set_option maxHeartbeats 8000000 in
set_option maxRecDepth 20000 in
theorem kX5_init (G : GP) (a0 : Nat) (σ : Sto) : Me G mX5_init 1 3 18 jV [.ref a0] σ (fX5_init a0 σ) := by
  refine hs_me (lv := [(0, .ref a0)]) (plainFor_of_name (by decide +kernel)) (Nat.le_of_ble_eq_true rfl) rfl ?_
  unfold fX5_init
  refine hj_aload_n 0 dX5_init_0 rfl ?_
  refine hj_oinit olX5_3 oo_i oo_c dX5_init_1 (Nat.le_of_ble_eq_true rfl) (Nat.le_of_ble_eq_true rfl) ?_
  refine hj_aload_n 0 dX5_init_4 rfl ?_
  refine hj_iconst (0 : Int32) dX5_init_5 (by decide) ?_
  refine hj_put (fpX5_9 _) (fun _ => rfl) (fun _ => rfl) dX5_init_6 (fun σ1 _ => ?_)
  refine hj_aload_n 0 dX5_init_9 rfl ?_
  refine hj_bipush (6 : Int32) dX5_init_10 (by decide) ?_
  refine hj_newa (t := 2) (N := 6) (ty := .int) (6, .inl (fun _ => 0)) ac_int rfl (fun _ => rfl) (fun _ _ _ h1 h2 => Option.some.inj (h1.symm.trans h2)) (fun _ => rfl) (fun _ => rfl) (by decide) (by decide) (by decide) dX5_init_12 (Nat.le_of_ble_eq_true rfl) (Nat.le_of_ble_eq_true rfl) (fun q2 σ3 => ?_)
  refine hj_put fpX5_15 (fun _ => rfl) (fun _ => rfl) dX5_init_14 (fun σ4 _ => ?_)
  refine hj_aload_n 0 dX5_init_17 rfl ?_
  refine hj_bipush (6 : Int32) dX5_init_18 (by decide) ?_
  refine hj_newa (t := 2) (N := 6) (ty := .int) (6, .inl (fun _ => 0)) ac_int rfl (fun _ => rfl) (fun _ _ _ h1 h2 => Option.some.inj (h1.symm.trans h2)) (fun _ => rfl) (fun _ => rfl) (by decide) (by decide) (by decide) dX5_init_20 (Nat.le_of_ble_eq_true rfl) (Nat.le_of_ble_eq_true rfl) (fun q5 σ6 => ?_)
  refine hj_put fpX5_19 (fun _ => rfl) (fun _ => rfl) dX5_init_22 (fun σ7 _ => ?_)
  refine hj_aload_n 0 dX5_init_25 rfl ?_
  refine hj_bipush (6 : Int32) dX5_init_26 (by decide) ?_
  refine hj_newa (t := 4) (N := 6) (ty := .boolean) (6, .inl (fun _ => 0)) ac_boolean rfl (fun _ => rfl) (fun _ _ _ h1 h2 => Option.some.inj (h1.symm.trans h2)) (fun _ => rfl) (fun _ => rfl) (by decide) (by decide) (by decide) dX5_init_28 (Nat.le_of_ble_eq_true rfl) (Nat.le_of_ble_eq_true rfl) (fun q8 σ9 => ?_)
  refine hj_put fpX5_22 (fun _ => rfl) (fun _ => rfl) dX5_init_30 (fun σ10 _ => ?_)
  exact hj_vret dX5_init_33 rfl rfl (Nat.le_of_ble_eq_true rfl)
set_option maxRecDepth 20000 in
def fX8_init (a0 : Nat) (σ : Sto) : Option (Unit × Sto) := (nw σ (.inl (5, 3, .inr (.inr (.inr (.inr (fun _ => none)))))) fun q1 σ2 => ((pV σ2 8 a0 0 (.ref q1)).bind fun σ3 => (nw σ3 (.inl (4, (3, .inl (fun _ => 0)))) fun q4 σ5 => ((pV σ5 8 a0 1 (.ref q4)).bind fun σ6 => ((gR σ6 8 a0 0).bind fun t7 => (nw σ6 (.inr (5, [.int 0, .null, .null, .null])) fun q8 σ9 => (cb (fX5_init q8 σ9) fun _ σ10 => ((sR σ10 5 5 t7 ((0 : Int32)) q8).bind fun σ11 => ((gR σ11 8 a0 0).bind fun t12 => (nw σ11 (.inr (5, [.int 0, .null, .null, .null])) fun q13 σ14 => (cb (fX5_init q13 σ14) fun _ σ15 => ((sR σ15 5 5 t12 ((1 : Int32)) q13).bind fun σ16 => ((gR σ16 8 a0 0).bind fun t17 => (nw σ16 (.inr (5, [.int 0, .null, .null, .null])) fun q18 σ19 => (cb (fX5_init q18 σ19) fun _ σ20 => ((sR σ20 5 5 t17 ((2 : Int32)) q18).bind fun σ21 => (some ((), σ21))))))))))))))))))
set_option maxHeartbeats 8000000 in
set_option maxRecDepth 20000 in
theorem kX8_init (G : GP) (a0 : Nat) (σ : Sto) : Me G mX8_init 2 14 72 jV [.ref a0] σ (fX8_init a0 σ) := by
  refine hs_me (lv := [(0, .ref a0)]) (plainFor_of_name (by decide +kernel)) (Nat.le_of_ble_eq_true rfl) rfl ?_
  unfold fX8_init
  refine hj_aload_n 0 dX8_init_0 rfl ?_
  refine hj_oinit olX8_3 oo_i oo_c dX8_init_1 (Nat.le_of_ble_eq_true rfl) (Nat.le_of_ble_eq_true rfl) ?_
  refine hj_aload_n 0 dX8_init_4 rfl ?_
  refine hj_iconst (3 : Int32) dX8_init_5 (by decide) ?_
  refine hj_anew (t := 5) (N := 3) (C := RX5) clX8_9 (fun _ h => h.1) (fun _ => rfl) (by decide) (by decide) (by decide) dX8_init_6 (Nat.le_of_ble_eq_true rfl) (Nat.le_of_ble_eq_true rfl) (fun q1 σ2 => ?_)
  refine hj_put fpX8_11 (fun _ => rfl) (fun _ => rfl) dX8_init_9 (fun σ3 _ => ?_)
  refine hj_aload_n 0 dX8_init_12 rfl ?_
  refine hj_iconst (3 : Int32) dX8_init_13 (by decide) ?_
  refine hj_newa (t := 4) (N := 3) (ty := .boolean) (3, .inl (fun _ => 0)) ac_boolean rfl (fun _ => rfl) (fun _ _ _ h1 h2 => Option.some.inj (h1.symm.trans h2)) (fun _ => rfl) (fun _ => rfl) (by decide) (by decide) (by decide) dX8_init_14 (Nat.le_of_ble_eq_true rfl) (Nat.le_of_ble_eq_true rfl) (fun q4 σ5 => ?_)
  refine hj_put fpX8_17 (fun _ => rfl) (fun _ => rfl) dX8_init_16 (fun σ6 _ => ?_)
  refine hj_iconst (0 : Int32) dX8_init_19 (by decide) ?_
  refine hj_istore_n (lv' := [(0, .ref a0), (1, .int (0 : Int32))]) dX8_init_20 (by decide) [1, 0] rfl ?_
  refine hj_iload_n 1 dX8_init_21 rfl ?_
  refine hj_iconst (3 : Int32) dX8_init_22 (by decide) ?_
  refine hj_icmp_ge_F 45 dX8_init_23 (by decide) (by decide) ?_
  refine hj_aload_n 0 dX8_init_26 rfl ?_
  refine hj_getR flX8_11 dX8_init_27 (fun t7 _ => ?_)
  refine hj_iload_n 1 dX8_init_30 rfl ?_
  refine hj_new [.int 0, .null, .null, .null] tyX5 clX8_9 itX5 izX5 rfl cfX5 tyX5_ok (by decide +kernel) (fun _ => rfl) dX8_init_31 (Nat.le_of_ble_eq_true rfl) (Nat.le_of_ble_eq_true rfl) (fun q8 σ9 => ?_)
  refine hj_dup dX8_init_34 rfl ?_
  refine hj_callI (M' := mX5_init) (h' := 1) (mc' := 3) (ms' := 18) (As := []) mfX5_init miX5_init rfl rfl mlX8_21 dX8_init_35 (kX5_init G _ _) ⟨Nat.le_of_ble_eq_true rfl, Nat.le_of_ble_eq_true rfl⟩ ⟨Nat.le_of_ble_eq_true rfl, Nat.le_of_ble_eq_true rfl⟩ rfl (Nat.le_of_ble_eq_true rfl) (fun _ σ10 _ => ?_)
  refine hj_aast5 dX8_init_38 (fun σ11 _ => ?_)
  refine hj_iincK (lv' := [(0, .ref a0), (1, .int (1 : Int32))]) 1 (1 : Int32) dX8_init_39 rfl (by decide) (by decide) [1, 0] rfl ?_
  refine hj_goto 21 dX8_init_42 (by decide) ?_
  refine hj_iload_n 1 dX8_init_21 rfl ?_
  refine hj_iconst (3 : Int32) dX8_init_22 (by decide) ?_
  refine hj_icmp_ge_F 45 dX8_init_23 (by decide) (by decide) ?_
  refine hj_aload_n 0 dX8_init_26 rfl ?_
  refine hj_getR flX8_11 dX8_init_27 (fun t12 _ => ?_)
  refine hj_iload_n 1 dX8_init_30 rfl ?_
  refine hj_new [.int 0, .null, .null, .null] tyX5 clX8_9 itX5 izX5 rfl cfX5 tyX5_ok (by decide +kernel) (fun _ => rfl) dX8_init_31 (Nat.le_of_ble_eq_true rfl) (Nat.le_of_ble_eq_true rfl) (fun q13 σ14 => ?_)
  refine hj_dup dX8_init_34 rfl ?_
  refine hj_callI (M' := mX5_init) (h' := 1) (mc' := 3) (ms' := 18) (As := []) mfX5_init miX5_init rfl rfl mlX8_21 dX8_init_35 (kX5_init G _ _) ⟨Nat.le_of_ble_eq_true rfl, Nat.le_of_ble_eq_true rfl⟩ ⟨Nat.le_of_ble_eq_true rfl, Nat.le_of_ble_eq_true rfl⟩ rfl (Nat.le_of_ble_eq_true rfl) (fun _ σ15 _ => ?_)
  refine hj_aast5 dX8_init_38 (fun σ16 _ => ?_)
  refine hj_iincK (lv' := [(0, .ref a0), (1, .int (2 : Int32))]) 1 (2 : Int32) dX8_init_39 rfl (by decide) (by decide) [1, 0] rfl ?_
  refine hj_goto 21 dX8_init_42 (by decide) ?_
  refine hj_iload_n 1 dX8_init_21 rfl ?_
  refine hj_iconst (3 : Int32) dX8_init_22 (by decide) ?_
  refine hj_icmp_ge_F 45 dX8_init_23 (by decide) (by decide) ?_
  refine hj_aload_n 0 dX8_init_26 rfl ?_
  refine hj_getR flX8_11 dX8_init_27 (fun t17 _ => ?_)
  refine hj_iload_n 1 dX8_init_30 rfl ?_
  refine hj_new [.int 0, .null, .null, .null] tyX5 clX8_9 itX5 izX5 rfl cfX5 tyX5_ok (by decide +kernel) (fun _ => rfl) dX8_init_31 (Nat.le_of_ble_eq_true rfl) (Nat.le_of_ble_eq_true rfl) (fun q18 σ19 => ?_)
  refine hj_dup dX8_init_34 rfl ?_
  refine hj_callI (M' := mX5_init) (h' := 1) (mc' := 3) (ms' := 18) (As := []) mfX5_init miX5_init rfl rfl mlX8_21 dX8_init_35 (kX5_init G _ _) ⟨Nat.le_of_ble_eq_true rfl, Nat.le_of_ble_eq_true rfl⟩ ⟨Nat.le_of_ble_eq_true rfl, Nat.le_of_ble_eq_true rfl⟩ rfl (Nat.le_of_ble_eq_true rfl) (fun _ σ20 _ => ?_)
  refine hj_aast5 dX8_init_38 (fun σ21 _ => ?_)
  refine hj_iincK (lv' := [(0, .ref a0), (1, .int (3 : Int32))]) 1 (3 : Int32) dX8_init_39 rfl (by decide) (by decide) [1, 0] rfl ?_
  refine hj_goto 21 dX8_init_42 (by decide) ?_
  refine hj_iload_n 1 dX8_init_21 rfl ?_
  refine hj_iconst (3 : Int32) dX8_init_22 (by decide) ?_
  refine hj_icmp_ge_T 45 dX8_init_23 (by decide) (by decide) ?_
  exact hj_vret dX8_init_45 rfl rfl (Nat.le_of_ble_eq_true rfl)
def fX9_init_b105 (K51 : Nat → Int32 → Int64 → Int32 → Sto → Option (Unit × Sto)) (x0 : Nat) (x1 : Int32) (x2 : Int64) (x4 : Int32) (σ : Sto) : Option (Unit × Sto) := (K51 x0 x1 x2 (x4 + (1 : Int32)) σ)
theorem sX9_init_b105 {G : GP} {n0 : Nat} {K51 : Nat → Int32 → Int64 → Int32 → Sto → Option (Unit × Sto)} (hK51 : ∀ (x0 : Nat) (x1 : Int32) (x2 : Int64) (x4 : Int32) (σ : Sto), Sim G mX9_init 8 4 1222 n0 jV 4 1222 51 [(0, .ref x0), (1, .int x1), (2, .long x2), (4, .int x4)] [] σ (K51 x0 x1 x2 x4 σ)) : ∀ (x0 : Nat) (x1 : Int32) (x2 : Int64) (x4 : Int32) (σ : Sto), Sim G mX9_init 8 4 1222 n0 jV 4 1222 105 [(0, .ref x0), (1, .int x1), (2, .long x2), (4, .int x4)] [] σ (fX9_init_b105 K51 x0 x1 x2 x4 σ) := by
  intro x0 x1 x2 x4 σ
  unfold fX9_init_b105
  refine hj_iinc (lv' := [(0, .ref x0), (1, .int x1), (2, .long x2), (4, .int (x4 + (1 : Int32)))]) 3 (1 : Int32) dX9_init_105 rfl (by decide) (by decide) [1, 2, 3, 0] rfl ?_
  refine hj_goto 51 dX9_init_108 (by decide) ?_
  refine hj_loc (lv' := [(0, .ref x0), (1, .int x1), (2, .long x2), (4, .int (x4 + (1 : Int32)))]) [0, 1, 2, 3] rfl ?_
  exact hK51 _ _ _ _ _
def fX9_init_b51 : Nat → Nat → Int32 → Int64 → Int32 → Sto → Option (Unit × Sto)
  | 0, _, _, _, _, _ => none
  | n + 1, x0, x1, x2, x4, σ => (if (79 : Int32) ≤ x4 then (some ((), σ)) else (if (16 : Int32) ≤ x1 then (some ((), σ)) else (if x4 < 0 ∨ 79 ≤ x4 then none else (lt ((sx_ch x4)) fun v14 => (if v14 = (32 : Int32) then ((gR σ 9 x0 0).bind fun t17 => ((sL σ 3 t17 x1 x2).bind fun σ18 => (fX9_init_b105 (fX9_init_b51 n) x0 (x1 + (1 : Int32)) ((0 : Int64)) x4 σ18))) else (cb (fX9_packLetter x2 v14 σ) fun r16 σ15 => (fX9_init_b105 (fX9_init_b51 n) x0 x1 r16 x4 σ15)))))))
theorem sX9_init_b51 {G : GP} {n0 : Nat} : ∀ (n : Nat) (x0 : Nat) (x1 : Int32) (x2 : Int64) (x4 : Int32) (σ : Sto), Sim G mX9_init 8 4 1222 n0 jV 4 1222 51 [(0, .ref x0), (1, .int x1), (2, .long x2), (4, .int x4)] [] σ (fX9_init_b51 n x0 x1 x2 x4 σ) := by
  intro n
  induction n with
  | zero => intros; rw [fX9_init_b51]; exact hj_none
  | succ n ih =>
    intro x0 x1 x2 x4 σ
    rw [fX9_init_b51]
    refine hj_iload 3 dX9_init_51 rfl ?_
    refine hj_slen dX9_init_53 dX9_init_55 (Nat.le_of_ble_eq_true rfl) (Nat.le_of_ble_eq_true rfl) rfl (Nat.le_of_ble_eq_true rfl) (Nat.le_of_ble_eq_true rfl) ?_
    refine hj_icmp_ge 111 dX9_init_58 (by decide) (fun _ => ?_) (fun _ => ?_)
    · exact hj_vret dX9_init_111 rfl rfl (Nat.le_of_ble_eq_true rfl)
    · refine hj_iload_n 1 dX9_init_61 rfl ?_
      refine hj_bipush (16 : Int32) dX9_init_62 (by decide) ?_
      refine hj_icmp_ge 111 dX9_init_64 (by decide) (fun _ => ?_) (fun _ => ?_)
      · exact hj_vret dX9_init_111 rfl rfl (Nat.le_of_ble_eq_true rfl)
      · refine hj_scat 3 dX9_init_67 dX9_init_69 dX9_init_71 rfl (Nat.le_of_ble_eq_true rfl) (Nat.le_of_ble_eq_true rfl) rfl (Nat.le_of_ble_eq_true rfl) (Nat.le_of_ble_eq_true rfl) (fun _ => ?_)
        refine hj_ltI (fun v14 _ => ?_)
        refine hj_istore (lv' := [(0, .ref x0), (1, .int x1), (2, .long x2), (4, .int x4), (5, .int v14)]) dX9_init_74 (by decide) [1, 2, 3, 4, 0] rfl ?_
        refine hj_iload 4 dX9_init_76 rfl ?_
        refine hj_bipush (32 : Int32) dX9_init_78 (by decide) ?_
        refine hj_icmp_ne 98 dX9_init_80 (by decide) (fun _ => ?_) (fun _ => ?_)
        · refine hj_lload_n 2 dX9_init_98 rfl ?_
          refine hj_iload 4 dX9_init_99 rfl ?_
          refine hj_callS (M' := mX9_packLetter) (h' := 1) (As := [.long x2, .int v14]) mfX9_packLetter msX9_packLetter mlX9_41 dX9_init_101 (kX9_packLetter G _ _ _) ⟨Nat.le_of_ble_eq_true rfl, Nat.le_of_ble_eq_true rfl⟩ ⟨Nat.le_of_ble_eq_true rfl, Nat.le_of_ble_eq_true rfl⟩ rfl (Nat.le_of_ble_eq_true rfl) (fun r16 σ15 _ => ?_)
          refine hj_lstore_n (lv' := [(0, .ref x0), (1, .int x1), (2, .long r16), (4, .int x4), (5, .int v14)]) dX9_init_104 (by decide) [1, 2, 0, 3, 4] rfl ?_
          refine hj_loc (lv' := [(0, .ref x0), (1, .int x1), (2, .long r16), (4, .int x4)]) [0, 1, 2, 3] rfl ?_
          exact sX9_init_b105 ih _ _ _ _ _
        · refine hj_aload_n 0 dX9_init_83 rfl ?_
          refine hj_getR flX9_9 dX9_init_84 (fun t17 _ => ?_)
          refine hj_iload_n 1 dX9_init_87 rfl ?_
          refine hj_lload_n 2 dX9_init_88 rfl ?_
          refine hj_last dX9_init_89 (fun σ18 _ => ?_)
          refine hj_iinc (lv' := [(0, .ref x0), (1, .int (x1 + (1 : Int32))), (2, .long x2), (4, .int x4), (5, .int v14)]) 1 (1 : Int32) dX9_init_90 rfl (by decide) (by decide) [1, 0, 2, 3, 4] rfl ?_
          refine hj_lconst (0 : Int64) dX9_init_93 (by decide) ?_
          refine hj_lstore_n (lv' := [(0, .ref x0), (1, .int (x1 + (1 : Int32))), (2, .long (0 : Int64)), (4, .int x4), (5, .int v14)]) dX9_init_94 (by decide) [1, 2, 0, 3, 4] rfl ?_
          refine hj_goto 105 dX9_init_95 (by decide) ?_
          refine hj_loc (lv' := [(0, .ref x0), (1, .int (x1 + (1 : Int32))), (2, .long (0 : Int64)), (4, .int x4)]) [0, 1, 2, 3] rfl ?_
          exact sX9_init_b105 ih _ _ _ _ _
set_option maxRecDepth 20000 in
def fX9_init (a0 : Nat) (σ : Sto) : Option (Unit × Sto) := (nw σ (.inl (3, (16, .inr (.inl (fun _ => 0))))) fun q1 σ2 => ((pV σ2 9 a0 0 (.ref q1)).bind fun σ3 => (nw σ3 (.inl (2, (402, .inl (fun _ => 0)))) fun q4 σ5 => ((pV σ5 9 a0 1 (.ref q4)).bind fun σ6 => (nw σ6 (.inl (2, (402, .inl (fun _ => 0)))) fun q7 σ8 => ((pV σ8 9 a0 2 (.ref q7)).bind fun σ9 => (nw σ9 (.inl (3, (402, .inr (.inl (fun _ => 0))))) fun q10 σ11 => ((pV σ11 9 a0 3 (.ref q10)).bind fun σ12 => ((pV σ12 9 a0 4 (.int ((0 : Int32)))).bind fun σ13 => (fX9_init_b51 FU a0 ((0 : Int32)) ((0 : Int64)) ((0 : Int32)) σ13))))))))))
set_option maxHeartbeats 8000000 in
set_option maxRecDepth 20000 in
theorem kX9_init (G : GP) (a0 : Nat) (σ : Sto) : Me G mX9_init 8 4 1222 jV [.ref a0] σ (fX9_init a0 σ) := by
  refine hs_me (lv := [(0, .ref a0)]) (plainFor_of_name (by decide +kernel)) (Nat.le_of_ble_eq_true rfl) rfl ?_
  unfold fX9_init
  refine hj_aload_n 0 dX9_init_0 rfl ?_
  refine hj_oinit olX9_3 oo_i oo_c dX9_init_1 (Nat.le_of_ble_eq_true rfl) (Nat.le_of_ble_eq_true rfl) ?_
  refine hj_aload_n 0 dX9_init_4 rfl ?_
  refine hj_bipush (16 : Int32) dX9_init_5 (by decide) ?_
  refine hj_newa (t := 3) (N := 16) (ty := .long) (16, .inr (.inl (fun _ => 0))) ac_long rfl (fun _ => rfl) (fun _ _ _ h1 h2 => Option.some.inj (h1.symm.trans h2)) (fun _ => rfl) (fun _ => rfl) (by decide) (by decide) (by decide) dX9_init_7 (Nat.le_of_ble_eq_true rfl) (Nat.le_of_ble_eq_true rfl) (fun q1 σ2 => ?_)
  refine hj_put fpX9_9 (fun _ => rfl) (fun _ => rfl) dX9_init_9 (fun σ3 _ => ?_)
  refine hj_aload_n 0 dX9_init_12 rfl ?_
  refine hj_sipush (402 : Int32) dX9_init_13 (by decide) ?_
  refine hj_newa (t := 2) (N := 402) (ty := .int) (402, .inl (fun _ => 0)) ac_int rfl (fun _ => rfl) (fun _ _ _ h1 h2 => Option.some.inj (h1.symm.trans h2)) (fun _ => rfl) (fun _ => rfl) (by decide) (by decide) (by decide) dX9_init_16 (Nat.le_of_ble_eq_true rfl) (Nat.le_of_ble_eq_true rfl) (fun q4 σ5 => ?_)
  refine hj_put fpX9_15 (fun _ => rfl) (fun _ => rfl) dX9_init_18 (fun σ6 _ => ?_)
  refine hj_aload_n 0 dX9_init_21 rfl ?_
  refine hj_sipush (402 : Int32) dX9_init_22 (by decide) ?_
  refine hj_newa (t := 2) (N := 402) (ty := .int) (402, .inl (fun _ => 0)) ac_int rfl (fun _ => rfl) (fun _ _ _ h1 h2 => Option.some.inj (h1.symm.trans h2)) (fun _ => rfl) (fun _ => rfl) (by decide) (by decide) (by decide) dX9_init_25 (Nat.le_of_ble_eq_true rfl) (Nat.le_of_ble_eq_true rfl) (fun q7 σ8 => ?_)
  refine hj_put fpX9_19 (fun _ => rfl) (fun _ => rfl) dX9_init_27 (fun σ9 _ => ?_)
  refine hj_aload_n 0 dX9_init_30 rfl ?_
  refine hj_sipush (402 : Int32) dX9_init_31 (by decide) ?_
  refine hj_newa (t := 3) (N := 402) (ty := .long) (402, .inr (.inl (fun _ => 0))) ac_long rfl (fun _ => rfl) (fun _ _ _ h1 h2 => Option.some.inj (h1.symm.trans h2)) (fun _ => rfl) (fun _ => rfl) (by decide) (by decide) (by decide) dX9_init_34 (Nat.le_of_ble_eq_true rfl) (Nat.le_of_ble_eq_true rfl) (fun q10 σ11 => ?_)
  refine hj_put fpX9_22 (fun _ => rfl) (fun _ => rfl) dX9_init_36 (fun σ12 _ => ?_)
  refine hj_aload_n 0 dX9_init_39 rfl ?_
  refine hj_iconst (0 : Int32) dX9_init_40 (by decide) ?_
  refine hj_put (fpX9_25 _) (fun _ => rfl) (fun _ => rfl) dX9_init_41 (fun σ13 _ => ?_)
  refine hj_iconst (0 : Int32) dX9_init_44 (by decide) ?_
  refine hj_istore_n (lv' := [(0, .ref a0), (1, .int (0 : Int32))]) dX9_init_45 (by decide) [1, 0] rfl ?_
  refine hj_lconst (0 : Int64) dX9_init_46 (by decide) ?_
  refine hj_lstore_n (lv' := [(0, .ref a0), (1, .int (0 : Int32)), (2, .long (0 : Int64))]) dX9_init_47 (by decide) [1, 2, 0] rfl ?_
  refine hj_iconst (0 : Int32) dX9_init_48 (by decide) ?_
  refine hj_istore (lv' := [(0, .ref a0), (1, .int (0 : Int32)), (2, .long (0 : Int64)), (4, .int (0 : Int32))]) dX9_init_49 (by decide) [1, 2, 3, 0] rfl ?_
  refine hj_loc (lv' := [(0, .ref a0), (1, .int (0 : Int32)), (2, .long (0 : Int64)), (4, .int (0 : Int32))]) [0, 1, 2, 3] rfl ?_
  exact sX9_init_b51 _ _ _ _ _ _
set_option maxRecDepth 20000 in
def fX10_init (a0 : Nat) (σ : Sto) : Option (Unit × Sto) := ((pV σ 10 a0 0 (.int ((0 : Int32)))).bind fun σ1 => (nw σ1 (.inl (3, (6, .inr (.inl (fun _ => 0))))) fun q2 σ3 => ((pV σ3 10 a0 1 (.ref q2)).bind fun σ4 => (nw σ4 (.inl (2, (6, .inl (fun _ => 0)))) fun q5 σ6 => ((pV σ6 10 a0 2 (.ref q5)).bind fun σ7 => (nw σ7 (.inl (2, (6, .inl (fun _ => 0)))) fun q8 σ9 => ((pV σ9 10 a0 3 (.ref q8)).bind fun σ10 => (nw σ10 (.inl (2, (6, .inl (fun _ => 0)))) fun q11 σ12 => ((pV σ12 10 a0 4 (.ref q11)).bind fun σ13 => ((pV σ13 10 a0 5 (.int ((0 : Int32)))).bind fun σ14 => (nw σ14 (.inl (2, (400, .inl (fun _ => 0)))) fun q15 σ16 => ((pV σ16 10 a0 6 (.ref q15)).bind fun σ17 => (nw σ17 (.inl (2, (400, .inl (fun _ => 0)))) fun q18 σ19 => ((pV σ19 10 a0 7 (.ref q18)).bind fun σ20 => (nw σ20 (.inl (2, (40, .inl (fun _ => 0)))) fun q21 σ22 => ((pV σ22 10 a0 8 (.ref q21)).bind fun σ23 => ((pV σ23 10 a0 9 (.int ((100 : Int32)))).bind fun σ24 => ((pV σ24 10 a0 10 (.int ((0 : Int32)))).bind fun σ25 => (nw σ25 (.inl (2, (6, .inl (fun _ => 0)))) fun q26 σ27 => ((pV σ27 10 a0 11 (.ref q26)).bind fun σ28 => (nw σ28 (.inl (2, (6, .inl (fun _ => 0)))) fun q29 σ30 => ((pV σ30 10 a0 12 (.ref q29)).bind fun σ31 => (nw σ31 (.inl (2, (6, .inl (fun _ => 0)))) fun q32 σ33 => ((pV σ33 10 a0 13 (.ref q32)).bind fun σ34 => (nw σ34 (.inr (5, [.int 0, .null, .null, .null])) fun q35 σ36 => (cb (fX5_init q35 σ36) fun _ σ37 => ((pV σ37 10 a0 14 (.ref q35)).bind fun σ38 => (some ((), σ38)))))))))))))))))))))))))))))
set_option maxHeartbeats 8000000 in
set_option maxRecDepth 20000 in
theorem kX10_init (G : GP) (a0 : Nat) (σ : Sto) : Me G mX10_init 2 14 904 jV [.ref a0] σ (fX10_init a0 σ) := by
  refine hs_me (lv := [(0, .ref a0)]) (plainFor_of_name (by decide +kernel)) (Nat.le_of_ble_eq_true rfl) rfl ?_
  unfold fX10_init
  refine hj_aload_n 0 dX10_init_0 rfl ?_
  refine hj_oinit olX10_3 oo_i oo_c dX10_init_1 (Nat.le_of_ble_eq_true rfl) (Nat.le_of_ble_eq_true rfl) ?_
  refine hj_aload_n 0 dX10_init_4 rfl ?_
  refine hj_iconst (0 : Int32) dX10_init_5 (by decide) ?_
  refine hj_put (fpX10_9 _) (fun _ => rfl) (fun _ => rfl) dX10_init_6 (fun σ1 _ => ?_)
  refine hj_aload_n 0 dX10_init_9 rfl ?_
  refine hj_bipush (6 : Int32) dX10_init_10 (by decide) ?_
  refine hj_newa (t := 3) (N := 6) (ty := .long) (6, .inr (.inl (fun _ => 0))) ac_long rfl (fun _ => rfl) (fun _ _ _ h1 h2 => Option.some.inj (h1.symm.trans h2)) (fun _ => rfl) (fun _ => rfl) (by decide) (by decide) (by decide) dX10_init_12 (Nat.le_of_ble_eq_true rfl) (Nat.le_of_ble_eq_true rfl) (fun q2 σ3 => ?_)
  refine hj_put fpX10_15 (fun _ => rfl) (fun _ => rfl) dX10_init_14 (fun σ4 _ => ?_)
  refine hj_aload_n 0 dX10_init_17 rfl ?_
  refine hj_bipush (6 : Int32) dX10_init_18 (by decide) ?_
  refine hj_newa (t := 2) (N := 6) (ty := .int) (6, .inl (fun _ => 0)) ac_int rfl (fun _ => rfl) (fun _ _ _ h1 h2 => Option.some.inj (h1.symm.trans h2)) (fun _ => rfl) (fun _ => rfl) (by decide) (by decide) (by decide) dX10_init_20 (Nat.le_of_ble_eq_true rfl) (Nat.le_of_ble_eq_true rfl) (fun q5 σ6 => ?_)
  refine hj_put fpX10_19 (fun _ => rfl) (fun _ => rfl) dX10_init_22 (fun σ7 _ => ?_)
  refine hj_aload_n 0 dX10_init_25 rfl ?_
  refine hj_bipush (6 : Int32) dX10_init_26 (by decide) ?_
  refine hj_newa (t := 2) (N := 6) (ty := .int) (6, .inl (fun _ => 0)) ac_int rfl (fun _ => rfl) (fun _ _ _ h1 h2 => Option.some.inj (h1.symm.trans h2)) (fun _ => rfl) (fun _ => rfl) (by decide) (by decide) (by decide) dX10_init_28 (Nat.le_of_ble_eq_true rfl) (Nat.le_of_ble_eq_true rfl) (fun q8 σ9 => ?_)
  refine hj_put fpX10_23 (fun _ => rfl) (fun _ => rfl) dX10_init_30 (fun σ10 _ => ?_)
  refine hj_aload_n 0 dX10_init_33 rfl ?_
  refine hj_bipush (6 : Int32) dX10_init_34 (by decide) ?_
  refine hj_newa (t := 2) (N := 6) (ty := .int) (6, .inl (fun _ => 0)) ac_int rfl (fun _ => rfl) (fun _ _ _ h1 h2 => Option.some.inj (h1.symm.trans h2)) (fun _ => rfl) (fun _ => rfl) (by decide) (by decide) (by decide) dX10_init_36 (Nat.le_of_ble_eq_true rfl) (Nat.le_of_ble_eq_true rfl) (fun q11 σ12 => ?_)
  refine hj_put fpX10_26 (fun _ => rfl) (fun _ => rfl) dX10_init_38 (fun σ13 _ => ?_)
  refine hj_aload_n 0 dX10_init_41 rfl ?_
  refine hj_iconst (0 : Int32) dX10_init_42 (by decide) ?_
  refine hj_put (fpX10_29 _) (fun _ => rfl) (fun _ => rfl) dX10_init_43 (fun σ14 _ => ?_)
  refine hj_aload_n 0 dX10_init_46 rfl ?_
  refine hj_sipush (400 : Int32) dX10_init_47 (by decide) ?_
  refine hj_newa (t := 2) (N := 400) (ty := .int) (400, .inl (fun _ => 0)) ac_int rfl (fun _ => rfl) (fun _ _ _ h1 h2 => Option.some.inj (h1.symm.trans h2)) (fun _ => rfl) (fun _ => rfl) (by decide) (by decide) (by decide) dX10_init_50 (Nat.le_of_ble_eq_true rfl) (Nat.le_of_ble_eq_true rfl) (fun q15 σ16 => ?_)
  refine hj_put fpX10_32 (fun _ => rfl) (fun _ => rfl) dX10_init_52 (fun σ17 _ => ?_)
  refine hj_aload_n 0 dX10_init_55 rfl ?_
  refine hj_sipush (400 : Int32) dX10_init_56 (by decide) ?_
  refine hj_newa (t := 2) (N := 400) (ty := .int) (400, .inl (fun _ => 0)) ac_int rfl (fun _ => rfl) (fun _ _ _ h1 h2 => Option.some.inj (h1.symm.trans h2)) (fun _ => rfl) (fun _ => rfl) (by decide) (by decide) (by decide) dX10_init_59 (Nat.le_of_ble_eq_true rfl) (Nat.le_of_ble_eq_true rfl) (fun q18 σ19 => ?_)
  refine hj_put fpX10_35 (fun _ => rfl) (fun _ => rfl) dX10_init_61 (fun σ20 _ => ?_)
  refine hj_aload_n 0 dX10_init_64 rfl ?_
  refine hj_bipush (40 : Int32) dX10_init_65 (by decide) ?_
  refine hj_newa (t := 2) (N := 40) (ty := .int) (40, .inl (fun _ => 0)) ac_int rfl (fun _ => rfl) (fun _ _ _ h1 h2 => Option.some.inj (h1.symm.trans h2)) (fun _ => rfl) (fun _ => rfl) (by decide) (by decide) (by decide) dX10_init_67 (Nat.le_of_ble_eq_true rfl) (Nat.le_of_ble_eq_true rfl) (fun q21 σ22 => ?_)
  refine hj_put fpX10_38 (fun _ => rfl) (fun _ => rfl) dX10_init_69 (fun σ23 _ => ?_)
  refine hj_aload_n 0 dX10_init_72 rfl ?_
  refine hj_bipush (100 : Int32) dX10_init_73 (by decide) ?_
  refine hj_put (fpX10_41 _) (fun _ => rfl) (fun _ => rfl) dX10_init_75 (fun σ24 _ => ?_)
  refine hj_aload_n 0 dX10_init_78 rfl ?_
  refine hj_iconst (0 : Int32) dX10_init_79 (by decide) ?_
  refine hj_put (fpX10_44 _) (fun _ => rfl) (fun _ => rfl) dX10_init_80 (fun σ25 _ => ?_)
  refine hj_aload_n 0 dX10_init_83 rfl ?_
  refine hj_bipush (6 : Int32) dX10_init_84 (by decide) ?_
  refine hj_newa (t := 2) (N := 6) (ty := .int) (6, .inl (fun _ => 0)) ac_int rfl (fun _ => rfl) (fun _ _ _ h1 h2 => Option.some.inj (h1.symm.trans h2)) (fun _ => rfl) (fun _ => rfl) (by decide) (by decide) (by decide) dX10_init_86 (Nat.le_of_ble_eq_true rfl) (Nat.le_of_ble_eq_true rfl) (fun q26 σ27 => ?_)
  refine hj_put fpX10_47 (fun _ => rfl) (fun _ => rfl) dX10_init_88 (fun σ28 _ => ?_)
  refine hj_aload_n 0 dX10_init_91 rfl ?_
  refine hj_bipush (6 : Int32) dX10_init_92 (by decide) ?_
  refine hj_newa (t := 2) (N := 6) (ty := .int) (6, .inl (fun _ => 0)) ac_int rfl (fun _ => rfl) (fun _ _ _ h1 h2 => Option.some.inj (h1.symm.trans h2)) (fun _ => rfl) (fun _ => rfl) (by decide) (by decide) (by decide) dX10_init_94 (Nat.le_of_ble_eq_true rfl) (Nat.le_of_ble_eq_true rfl) (fun q29 σ30 => ?_)
  refine hj_put fpX10_50 (fun _ => rfl) (fun _ => rfl) dX10_init_96 (fun σ31 _ => ?_)
  refine hj_aload_n 0 dX10_init_99 rfl ?_
  refine hj_bipush (6 : Int32) dX10_init_100 (by decide) ?_
  refine hj_newa (t := 2) (N := 6) (ty := .int) (6, .inl (fun _ => 0)) ac_int rfl (fun _ => rfl) (fun _ _ _ h1 h2 => Option.some.inj (h1.symm.trans h2)) (fun _ => rfl) (fun _ => rfl) (by decide) (by decide) (by decide) dX10_init_102 (Nat.le_of_ble_eq_true rfl) (Nat.le_of_ble_eq_true rfl) (fun q32 σ33 => ?_)
  refine hj_put fpX10_53 (fun _ => rfl) (fun _ => rfl) dX10_init_104 (fun σ34 _ => ?_)
  refine hj_aload_n 0 dX10_init_107 rfl ?_
  refine hj_new [.int 0, .null, .null, .null] tyX5 clX10_56 itX5 izX5 rfl cfX5 tyX5_ok (by decide +kernel) (fun _ => rfl) dX10_init_108 (Nat.le_of_ble_eq_true rfl) (Nat.le_of_ble_eq_true rfl) (fun q35 σ36 => ?_)
  refine hj_dup dX10_init_111 rfl ?_
  refine hj_callI (M' := mX5_init) (h' := 1) (mc' := 3) (ms' := 18) (As := []) mfX5_init miX5_init rfl rfl mlX10_58 dX10_init_112 (kX5_init G _ _) ⟨Nat.le_of_ble_eq_true rfl, Nat.le_of_ble_eq_true rfl⟩ ⟨Nat.le_of_ble_eq_true rfl, Nat.le_of_ble_eq_true rfl⟩ rfl (Nat.le_of_ble_eq_true rfl) (fun _ σ37 _ => ?_)
  refine hj_put fpX10_59 (fun _ => rfl) (fun _ => rfl) dX10_init_115 (fun σ38 _ => ?_)
  exact hj_vret dX10_init_118 rfl rfl (Nat.le_of_ble_eq_true rfl)
set_option maxRecDepth 20000 in
def fX11_init (a0 : Nat) (σ : Sto) : Option (Unit × Sto) := (nw σ (.inl (1, (2000, .inl (fun _ => 0)))) fun q1 σ2 => ((pV σ2 11 a0 0 (.ref q1)).bind fun σ3 => ((pV σ3 11 a0 1 (.int ((0 : Int32)))).bind fun σ4 => (nw σ4 (.inr (9, [.null, .null, .null, .null, .int 0])) fun q5 σ6 => (cb (fX9_init q5 σ6) fun _ σ7 => ((pV σ7 11 a0 2 (.ref q5)).bind fun σ8 => (nw σ8 (.inr (10, [.int 0, .null, .null, .null, .null, .int 0, .null, .null, .null, .int 0, .int 0, .null, .null, .null, .null])) fun q9 σ10 => (cb (fX10_init q9 σ10) fun _ σ11 => ((pV σ11 11 a0 3 (.ref q9)).bind fun σ12 => (nw σ12 (.inr (10, [.int 0, .null, .null, .null, .null, .int 0, .null, .null, .null, .int 0, .int 0, .null, .null, .null, .null])) fun q13 σ14 => (cb (fX10_init q13 σ14) fun _ σ15 => ((pV σ15 11 a0 4 (.ref q13)).bind fun σ16 => (nw σ16 (.inr (3, [.null, .null, .int 0, .int 0, .int 0, .int 0, .int 0, .int 0, .int 0])) fun q17 σ18 => ((gR σ18 11 a0 2).bind fun t19 => ((gR σ18 11 a0 4).bind fun t20 => (cb (fX3_init q17 t19 t20 σ18) fun _ σ21 => ((pV σ21 11 a0 5 (.ref q17)).bind fun σ22 => (nw σ22 (.inr (5, [.int 0, .null, .null, .null])) fun q23 σ24 => (cb (fX5_init q23 σ24) fun _ σ25 => ((pV σ25 11 a0 6 (.ref q23)).bind fun σ26 => (nw σ26 (.inr (5, [.int 0, .null, .null, .null])) fun q27 σ28 => (cb (fX5_init q27 σ28) fun _ σ29 => ((pV σ29 11 a0 7 (.ref q27)).bind fun σ30 => (nw σ30 (.inr (0, [.null, .null, .null, .null, .int 0, .int 0])) fun q31 σ32 => ((gR σ32 11 a0 3).bind fun t33 => ((gR σ32 11 a0 6).bind fun t34 => (cb (fX0_init q31 t33 t34 σ32) fun _ σ35 => ((pV σ35 11 a0 8 (.ref q31)).bind fun σ36 => (nw σ36 (.inr (4, [.int 0, .int 0, .null, .null, .null, .null])) fun q37 σ38 => (cb (fX4_init q37 σ38) fun _ σ39 => ((pV σ39 11 a0 9 (.ref q37)).bind fun σ40 => (nw σ40 (.inr (8, [.null, .null])) fun q41 σ42 => (cb (fX8_init q41 σ42) fun _ σ43 => ((pV σ43 11 a0 10 (.ref q41)).bind fun σ44 => (nw σ44 (.inr (1, [.int 0, .null, .null, .null, .int 0, .int 0, .null, .null])) fun q45 σ46 => (cb (fX1_init q45 σ46) fun _ σ47 => ((pV σ47 11 a0 11 (.ref q45)).bind fun σ48 => (nw σ48 (.inr (2, [.null, .null, .null])) fun q49 σ50 => (cb (fX2_init q49 σ50) fun _ σ51 => ((pV σ51 11 a0 12 (.ref q49)).bind fun σ52 => (nw σ52 (.inr (6, [.long 0, .long 0])) fun q53 σ54 => (cb (fX6_init q53 σ54) fun _ σ55 => ((pV σ55 11 a0 13 (.ref q53)).bind fun σ56 => (nw σ56 (.inl (2, (64, .inl (fun _ => 0)))) fun q57 σ58 => ((pV σ58 11 a0 14 (.ref q57)).bind fun σ59 => (some ((), σ59)))))))))))))))))))))))))))))))))))))))))))))))
set_option maxHeartbeats 8000000 in
set_option maxRecDepth 20000 in
theorem kX11_init (G : GP) (a0 : Nat) (σ : Sto) : Me G mX11_init 9 192 6087 jV [.ref a0] σ (fX11_init a0 σ) := by
  refine hs_me (lv := [(0, .ref a0)]) (plainFor_of_name (by decide +kernel)) (Nat.le_of_ble_eq_true rfl) rfl ?_
  unfold fX11_init
  refine hj_aload_n 0 dX11_init_0 rfl ?_
  refine hj_oinit olX11_3 oo_i oo_c dX11_init_1 (Nat.le_of_ble_eq_true rfl) (Nat.le_of_ble_eq_true rfl) ?_
  refine hj_aload_n 0 dX11_init_4 rfl ?_
  refine hj_sipush (2000 : Int32) dX11_init_5 (by decide) ?_
  refine hj_newa (t := 1) (N := 2000) (ty := .char) (2000, .inl (fun _ => 0)) ac_char rfl (fun _ => rfl) (fun _ _ _ h1 h2 => Option.some.inj (h1.symm.trans h2)) (fun _ => rfl) (fun _ => rfl) (by decide) (by decide) (by decide) dX11_init_8 (Nat.le_of_ble_eq_true rfl) (Nat.le_of_ble_eq_true rfl) (fun q1 σ2 => ?_)
  refine hj_put fpX11_9 (fun _ => rfl) (fun _ => rfl) dX11_init_10 (fun σ3 _ => ?_)
  refine hj_aload_n 0 dX11_init_13 rfl ?_
  refine hj_iconst (0 : Int32) dX11_init_14 (by decide) ?_
  refine hj_put (fpX11_13 _) (fun _ => rfl) (fun _ => rfl) dX11_init_15 (fun σ4 _ => ?_)
  refine hj_aload_n 0 dX11_init_18 rfl ?_
  refine hj_new [.null, .null, .null, .null, .int 0] tyX9 clX11_17 itX9 izX9 rfl cfX9 tyX9_ok (by decide +kernel) (fun _ => rfl) dX11_init_19 (Nat.le_of_ble_eq_true rfl) (Nat.le_of_ble_eq_true rfl) (fun q5 σ6 => ?_)
  refine hj_dup dX11_init_22 rfl ?_
  refine hj_callI (M' := mX9_init) (h' := 8) (mc' := 4) (ms' := 1222) (As := []) mfX9_init miX9_init rfl rfl mlX11_19 dX11_init_23 (kX9_init G _ _) ⟨Nat.le_of_ble_eq_true rfl, Nat.le_of_ble_eq_true rfl⟩ ⟨Nat.le_of_ble_eq_true rfl, Nat.le_of_ble_eq_true rfl⟩ rfl (Nat.le_of_ble_eq_true rfl) (fun _ σ7 _ => ?_)
  refine hj_put fpX11_20 (fun _ => rfl) (fun _ => rfl) dX11_init_26 (fun σ8 _ => ?_)
  refine hj_aload_n 0 dX11_init_29 rfl ?_
  refine hj_new [.int 0, .null, .null, .null, .null, .int 0, .null, .null, .null, .int 0, .int 0, .null, .null, .null, .null] tyX10 clX11_24 itX10 izX10 rfl cfX10 tyX10_ok (by decide +kernel) (fun _ => rfl) dX11_init_30 (Nat.le_of_ble_eq_true rfl) (Nat.le_of_ble_eq_true rfl) (fun q9 σ10 => ?_)
  refine hj_dup dX11_init_33 rfl ?_
  refine hj_callI (M' := mX10_init) (h' := 2) (mc' := 14) (ms' := 904) (As := []) mfX10_init miX10_init rfl rfl mlX11_26 dX11_init_34 (kX10_init G _ _) ⟨Nat.le_of_ble_eq_true rfl, Nat.le_of_ble_eq_true rfl⟩ ⟨Nat.le_of_ble_eq_true rfl, Nat.le_of_ble_eq_true rfl⟩ rfl (Nat.le_of_ble_eq_true rfl) (fun _ σ11 _ => ?_)
  refine hj_put (fpX11_27 _) (fun _ => rfl) (fun _ => rfl) dX11_init_37 (fun σ12 _ => ?_)
  refine hj_aload_n 0 dX11_init_40 rfl ?_
  refine hj_new [.int 0, .null, .null, .null, .null, .int 0, .null, .null, .null, .int 0, .int 0, .null, .null, .null, .null] tyX10 clX11_24 itX10 izX10 rfl cfX10 tyX10_ok (by decide +kernel) (fun _ => rfl) dX11_init_41 (Nat.le_of_ble_eq_true rfl) (Nat.le_of_ble_eq_true rfl) (fun q13 σ14 => ?_)
  refine hj_dup dX11_init_44 rfl ?_
  refine hj_callI (M' := mX10_init) (h' := 2) (mc' := 14) (ms' := 904) (As := []) mfX10_init miX10_init rfl rfl mlX11_26 dX11_init_45 (kX10_init G _ _) ⟨Nat.le_of_ble_eq_true rfl, Nat.le_of_ble_eq_true rfl⟩ ⟨Nat.le_of_ble_eq_true rfl, Nat.le_of_ble_eq_true rfl⟩ rfl (Nat.le_of_ble_eq_true rfl) (fun _ σ15 _ => ?_)
  refine hj_put (fpX11_31 _) (fun _ => rfl) (fun _ => rfl) dX11_init_48 (fun σ16 _ => ?_)
  refine hj_aload_n 0 dX11_init_51 rfl ?_
  refine hj_new [.null, .null, .int 0, .int 0, .int 0, .int 0, .int 0, .int 0, .int 0] tyX3 clX11_34 itX3 izX3 rfl cfX3 tyX3_ok (by decide +kernel) (fun _ => rfl) dX11_init_52 (Nat.le_of_ble_eq_true rfl) (Nat.le_of_ble_eq_true rfl) (fun q17 σ18 => ?_)
  refine hj_dup dX11_init_55 rfl ?_
  refine hj_aload_n 0 dX11_init_56 rfl ?_
  refine hj_getR flX11_20 dX11_init_57 (fun t19 _ => ?_)
  refine hj_aload_n 0 dX11_init_60 rfl ?_
  refine hj_getR flX11_31 dX11_init_61 (fun t20 _ => ?_)
  refine hj_callI (M' := mX3_init) (h' := 1) (mc' := 0) (ms' := 0) (As := [.ref t19, .ref t20]) mfX3_init miX3_init rfl rfl mlX11_36 dX11_init_64 (kX3_init G _ _ _ _) ⟨Nat.le_of_ble_eq_true rfl, Nat.le_of_ble_eq_true rfl⟩ ⟨Nat.le_of_ble_eq_true rfl, Nat.le_of_ble_eq_true rfl⟩ rfl (Nat.le_of_ble_eq_true rfl) (fun _ σ21 _ => ?_)
  refine hj_put fpX11_39 (fun _ => rfl) (fun _ => rfl) dX11_init_67 (fun σ22 _ => ?_)
  refine hj_aload_n 0 dX11_init_70 rfl ?_
  refine hj_new [.int 0, .null, .null, .null] tyX5 clX11_43 itX5 izX5 rfl cfX5 tyX5_ok (by decide +kernel) (fun _ => rfl) dX11_init_71 (Nat.le_of_ble_eq_true rfl) (Nat.le_of_ble_eq_true rfl) (fun q23 σ24 => ?_)
  refine hj_dup dX11_init_74 rfl ?_
  refine hj_callI (M' := mX5_init) (h' := 1) (mc' := 3) (ms' := 18) (As := []) mfX5_init miX5_init rfl rfl mlX11_45 dX11_init_75 (kX5_init G _ _) ⟨Nat.le_of_ble_eq_true rfl, Nat.le_of_ble_eq_true rfl⟩ ⟨Nat.le_of_ble_eq_true rfl, Nat.le_of_ble_eq_true rfl⟩ rfl (Nat.le_of_ble_eq_true rfl) (fun _ σ25 _ => ?_)
  refine hj_put fpX11_46 (fun _ => rfl) (fun _ => rfl) dX11_init_78 (fun σ26 _ => ?_)
  refine hj_aload_n 0 dX11_init_81 rfl ?_
  refine hj_new [.int 0, .null, .null, .null] tyX5 clX11_43 itX5 izX5 rfl cfX5 tyX5_ok (by decide +kernel) (fun _ => rfl) dX11_init_82 (Nat.le_of_ble_eq_true rfl) (Nat.le_of_ble_eq_true rfl) (fun q27 σ28 => ?_)
  refine hj_dup dX11_init_85 rfl ?_
  refine hj_callI (M' := mX5_init) (h' := 1) (mc' := 3) (ms' := 18) (As := []) mfX5_init miX5_init rfl rfl mlX11_45 dX11_init_86 (kX5_init G _ _) ⟨Nat.le_of_ble_eq_true rfl, Nat.le_of_ble_eq_true rfl⟩ ⟨Nat.le_of_ble_eq_true rfl, Nat.le_of_ble_eq_true rfl⟩ rfl (Nat.le_of_ble_eq_true rfl) (fun _ σ29 _ => ?_)
  refine hj_put fpX11_50 (fun _ => rfl) (fun _ => rfl) dX11_init_89 (fun σ30 _ => ?_)
  refine hj_aload_n 0 dX11_init_92 rfl ?_
  refine hj_new [.null, .null, .null, .null, .int 0, .int 0] tyX0 clX11_53 itX0 izX0 rfl cfX0 tyX0_ok (by decide +kernel) (fun _ => rfl) dX11_init_93 (Nat.le_of_ble_eq_true rfl) (Nat.le_of_ble_eq_true rfl) (fun q31 σ32 => ?_)
  refine hj_dup dX11_init_96 rfl ?_
  refine hj_aload_n 0 dX11_init_97 rfl ?_
  refine hj_getR flX11_27 dX11_init_98 (fun t33 _ => ?_)
  refine hj_aload_n 0 dX11_init_101 rfl ?_
  refine hj_getR flX11_46 dX11_init_102 (fun t34 _ => ?_)
  refine hj_callI (M' := mX0_init) (h' := 1) (mc' := 2) (ms' := 12) (As := [.ref t33, .ref t34]) mfX0_init miX0_init rfl rfl mlX11_55 dX11_init_105 (kX0_init G _ _ _ _) ⟨Nat.le_of_ble_eq_true rfl, Nat.le_of_ble_eq_true rfl⟩ ⟨Nat.le_of_ble_eq_true rfl, Nat.le_of_ble_eq_true rfl⟩ rfl (Nat.le_of_ble_eq_true rfl) (fun _ σ35 _ => ?_)
  refine hj_put fpX11_58 (fun _ => rfl) (fun _ => rfl) dX11_init_108 (fun σ36 _ => ?_)
  refine hj_aload_n 0 dX11_init_111 rfl ?_
  refine hj_new [.int 0, .int 0, .null, .null, .null, .null] tyX4 clX11_62 itX4 izX4 rfl cfX4 tyX4_ok (by decide +kernel) (fun _ => rfl) dX11_init_112 (Nat.le_of_ble_eq_true rfl) (Nat.le_of_ble_eq_true rfl) (fun q37 σ38 => ?_)
  refine hj_dup dX11_init_115 rfl ?_
  refine hj_callI (M' := mX4_init) (h' := 1) (mc' := 4) (ms' := 200) (As := []) mfX4_init miX4_init rfl rfl mlX11_64 dX11_init_116 (kX4_init G _ _) ⟨Nat.le_of_ble_eq_true rfl, Nat.le_of_ble_eq_true rfl⟩ ⟨Nat.le_of_ble_eq_true rfl, Nat.le_of_ble_eq_true rfl⟩ rfl (Nat.le_of_ble_eq_true rfl) (fun _ σ39 _ => ?_)
  refine hj_put fpX11_65 (fun _ => rfl) (fun _ => rfl) dX11_init_119 (fun σ40 _ => ?_)
  refine hj_aload_n 0 dX11_init_122 rfl ?_
  refine hj_new [.null, .null] tyX8 clX11_69 itX8 izX8 rfl cfX8 tyX8_ok (by decide +kernel) (fun _ => rfl) dX11_init_123 (Nat.le_of_ble_eq_true rfl) (Nat.le_of_ble_eq_true rfl) (fun q41 σ42 => ?_)
  refine hj_dup dX11_init_126 rfl ?_
  refine hj_callI (M' := mX8_init) (h' := 2) (mc' := 14) (ms' := 72) (As := []) mfX8_init miX8_init rfl rfl mlX11_71 dX11_init_127 (kX8_init G _ _) ⟨Nat.le_of_ble_eq_true rfl, Nat.le_of_ble_eq_true rfl⟩ ⟨Nat.le_of_ble_eq_true rfl, Nat.le_of_ble_eq_true rfl⟩ rfl (Nat.le_of_ble_eq_true rfl) (fun _ σ43 _ => ?_)
  refine hj_put fpX11_72 (fun _ => rfl) (fun _ => rfl) dX11_init_130 (fun σ44 _ => ?_)
  refine hj_aload_n 0 dX11_init_133 rfl ?_
  refine hj_new [.int 0, .null, .null, .null, .int 0, .int 0, .null, .null] tyX1 clX11_76 itX1 izX1 rfl cfX1 tyX1_ok (by decide +kernel) (fun _ => rfl) dX11_init_134 (Nat.le_of_ble_eq_true rfl) (Nat.le_of_ble_eq_true rfl) (fun q45 σ46 => ?_)
  refine hj_dup dX11_init_137 rfl ?_
  refine hj_callI (M' := mX1_init) (h' := 2) (mc' := 53) (ms' := 336) (As := []) mfX1_init miX1_init rfl rfl mlX11_78 dX11_init_138 (kX1_init G _ _) ⟨Nat.le_of_ble_eq_true rfl, Nat.le_of_ble_eq_true rfl⟩ ⟨Nat.le_of_ble_eq_true rfl, Nat.le_of_ble_eq_true rfl⟩ rfl (Nat.le_of_ble_eq_true rfl) (fun _ σ47 _ => ?_)
  refine hj_put fpX11_79 (fun _ => rfl) (fun _ => rfl) dX11_init_141 (fun σ48 _ => ?_)
  refine hj_aload_n 0 dX11_init_144 rfl ?_
  refine hj_new [.null, .null, .null] tyX2 clX11_83 itX2 izX2 rfl cfX2 tyX2_ok (by decide +kernel) (fun _ => rfl) dX11_init_145 (Nat.le_of_ble_eq_true rfl) (Nat.le_of_ble_eq_true rfl) (fun q49 σ50 => ?_)
  refine hj_dup dX11_init_148 rfl ?_
  refine hj_callI (M' := mX2_init) (h' := 2) (mc' := 67) (ms' := 258) (As := []) mfX2_init miX2_init rfl rfl mlX11_85 dX11_init_149 (kX2_init G _ _) ⟨Nat.le_of_ble_eq_true rfl, Nat.le_of_ble_eq_true rfl⟩ ⟨Nat.le_of_ble_eq_true rfl, Nat.le_of_ble_eq_true rfl⟩ rfl (Nat.le_of_ble_eq_true rfl) (fun _ σ51 _ => ?_)
  refine hj_put fpX11_86 (fun _ => rfl) (fun _ => rfl) dX11_init_152 (fun σ52 _ => ?_)
  refine hj_aload_n 0 dX11_init_155 rfl ?_
  refine hj_new [.long 0, .long 0] tyX6 clX11_90 itX6 izX6 rfl cfX6 tyX6_ok (by decide +kernel) (fun _ => rfl) dX11_init_156 (Nat.le_of_ble_eq_true rfl) (Nat.le_of_ble_eq_true rfl) (fun q53 σ54 => ?_)
  refine hj_dup dX11_init_159 rfl ?_
  refine hj_callI (M' := mX6_init) (h' := 1) (mc' := 0) (ms' := 0) (As := []) mfX6_init miX6_init rfl rfl mlX11_92 dX11_init_160 (kX6_init G _ _) ⟨Nat.le_of_ble_eq_true rfl, Nat.le_of_ble_eq_true rfl⟩ ⟨Nat.le_of_ble_eq_true rfl, Nat.le_of_ble_eq_true rfl⟩ rfl (Nat.le_of_ble_eq_true rfl) (fun _ σ55 _ => ?_)
  refine hj_put fpX11_93 (fun _ => rfl) (fun _ => rfl) dX11_init_163 (fun σ56 _ => ?_)
  refine hj_aload_n 0 dX11_init_166 rfl ?_
  refine hj_bipush (64 : Int32) dX11_init_167 (by decide) ?_
  refine hj_newa (t := 2) (N := 64) (ty := .int) (64, .inl (fun _ => 0)) ac_int rfl (fun _ => rfl) (fun _ _ _ h1 h2 => Option.some.inj (h1.symm.trans h2)) (fun _ => rfl) (fun _ => rfl) (by decide) (by decide) (by decide) dX11_init_169 (Nat.le_of_ble_eq_true rfl) (Nat.le_of_ble_eq_true rfl) (fun q57 σ58 => ?_)
  refine hj_put fpX11_97 (fun _ => rfl) (fun _ => rfl) dX11_init_171 (fun σ59 _ => ?_)
  exact hj_vret dX11_init_174 rfl rfl (Nat.le_of_ble_eq_true rfl)
set_option maxRecDepth 20000 in
def fX12_init (a0 : Nat) (σ : Sto) : Option (Unit × Sto) := (nw σ (.inl (0, (2000, .inl (fun _ => 0)))) fun q1 σ2 => ((pV σ2 12 a0 1 (.ref q1)).bind fun σ3 => (nw σ3 (.inl (0, (2000, .inl (fun _ => 0)))) fun q4 σ5 => ((pV σ5 12 a0 3 (.ref q4)).bind fun σ6 => (nw σ6 (.inl (2, (403, .inl (fun _ => 0)))) fun q7 σ8 => ((pV σ8 12 a0 5 (.ref q7)).bind fun σ9 => (nw σ9 (.inl (2, (403, .inl (fun _ => 0)))) fun q10 σ11 => ((pV σ11 12 a0 6 (.ref q10)).bind fun σ12 => (nw σ12 (.inl (2, (403, .inl (fun _ => 0)))) fun q13 σ14 => ((pV σ14 12 a0 7 (.ref q13)).bind fun σ15 => (nw σ15 (.inl (3, (403, .inr (.inl (fun _ => 0))))) fun q16 σ17 => ((pV σ17 12 a0 8 (.ref q16)).bind fun σ18 => (nw σ18 (.inl (3, (16, .inr (.inl (fun _ => 0))))) fun q19 σ20 => ((pV σ20 12 a0 9 (.ref q19)).bind fun σ21 => ((pV σ21 12 a0 17 (.int ((-1 : Int32)))).bind fun σ22 => (nw σ22 (.inl (3, (6, .inr (.inl (fun _ => 0))))) fun q23 σ24 => ((pV σ24 12 a0 21 (.ref q23)).bind fun σ25 => (nw σ25 (.inl (2, (2, .inl (fun _ => 0)))) fun q26 σ27 => ((pV σ27 12 a0 22 (.ref q26)).bind fun σ28 => (nw σ28 (.inl (2, (12, .inl (fun _ => 0)))) fun q29 σ30 => ((pV σ30 12 a0 23 (.ref q29)).bind fun σ31 => (nw σ31 (.inl (2, (12, .inl (fun _ => 0)))) fun q32 σ33 => ((pV σ33 12 a0 24 (.ref q32)).bind fun σ34 => (nw σ34 (.inl (2, (2, .inl (fun _ => 0)))) fun q35 σ36 => ((pV σ36 12 a0 25 (.ref q35)).bind fun σ37 => (nw σ37 (.inl (2, (2, .inl (fun _ => 0)))) fun q38 σ39 => ((pV σ39 12 a0 26 (.ref q38)).bind fun σ40 => (nw σ40 (.inl (2, (12, .inl (fun _ => 0)))) fun q41 σ42 => ((pV σ42 12 a0 27 (.ref q41)).bind fun σ43 => (nw σ43 (.inl (2, (12, .inl (fun _ => 0)))) fun q44 σ45 => ((pV σ45 12 a0 28 (.ref q44)).bind fun σ46 => (nw σ46 (.inl (2, (12, .inl (fun _ => 0)))) fun q47 σ48 => ((pV σ48 12 a0 29 (.ref q47)).bind fun σ49 => (nw σ49 (.inl (2, (40, .inl (fun _ => 0)))) fun q50 σ51 => ((pV σ51 12 a0 30 (.ref q50)).bind fun σ52 => (nw σ52 (.inl (2, (12, .inl (fun _ => 0)))) fun q53 σ54 => ((pV σ54 12 a0 31 (.ref q53)).bind fun σ55 => (nw σ55 (.inl (2, (12, .inl (fun _ => 0)))) fun q56 σ57 => ((pV σ57 12 a0 32 (.ref q56)).bind fun σ58 => (nw σ58 (.inl (4, (260, .inl (fun _ => 0)))) fun q59 σ60 => ((pV σ60 12 a0 34 (.ref q59)).bind fun σ61 => (nw σ61 (.inl (2, (260, .inl (fun _ => 0)))) fun q62 σ63 => ((pV σ63 12 a0 35 (.ref q62)).bind fun σ64 => (nw σ64 (.inl (2, (260, .inl (fun _ => 0)))) fun q65 σ66 => ((pV σ66 12 a0 36 (.ref q65)).bind fun σ67 => (nw σ67 (.inl (2, (260, .inl (fun _ => 0)))) fun q68 σ69 => ((pV σ69 12 a0 37 (.ref q68)).bind fun σ70 => (nw σ70 (.inl (2, (260, .inl (fun _ => 0)))) fun q71 σ72 => ((pV σ72 12 a0 38 (.ref q71)).bind fun σ73 => (nw σ73 (.inl (2, (840, .inl (fun _ => 0)))) fun q74 σ75 => ((pV σ75 12 a0 40 (.ref q74)).bind fun σ76 => (nw σ76 (.inl (2, (840, .inl (fun _ => 0)))) fun q77 σ78 => ((pV σ78 12 a0 41 (.ref q77)).bind fun σ79 => (nw σ79 (.inl (2, (64, .inl (fun _ => 0)))) fun q80 σ81 => ((pV σ81 12 a0 42 (.ref q80)).bind fun σ82 => (nw σ82 (.inl (2, (5, .inl (fun _ => 0)))) fun q83 σ84 => ((pV σ84 12 a0 44 (.ref q83)).bind fun σ85 => (nw σ85 (.inl (2, (400, .inl (fun _ => 0)))) fun q86 σ87 => ((pV σ87 12 a0 45 (.ref q86)).bind fun σ88 => (nw σ88 (.inl (2, (20, .inl (fun _ => 0)))) fun q89 σ90 => ((pV σ90 12 a0 47 (.ref q89)).bind fun σ91 => (nw σ91 (.inl (2, (20, .inl (fun _ => 0)))) fun q92 σ93 => ((pV σ93 12 a0 48 (.ref q92)).bind fun σ94 => (nw σ94 (.inl (2, (6, .inl (fun _ => 0)))) fun q95 σ96 => ((pV σ96 12 a0 52 (.ref q95)).bind fun σ97 => (nw σ97 (.inl (3, (6, .inr (.inl (fun _ => 0))))) fun q98 σ99 => ((pV σ99 12 a0 53 (.ref q98)).bind fun σ100 => (nw σ100 (.inl (3, (6, .inr (.inl (fun _ => 0))))) fun q101 σ102 => ((pV σ102 12 a0 54 (.ref q101)).bind fun σ103 => (nw σ103 (.inl (2, (1000, .inl (fun _ => 0)))) fun q104 σ105 => ((pV σ105 12 a0 56 (.ref q104)).bind fun σ106 => (nw σ106 (.inl (2, (64, .inl (fun _ => 0)))) fun q107 σ108 => ((pV σ108 12 a0 57 (.ref q107)).bind fun σ109 => (nw σ109 (.inl (2, (6, .inl (fun _ => 0)))) fun q110 σ111 => ((pV σ111 12 a0 61 (.ref q110)).bind fun σ112 => (nw σ112 (.inl (2, (120, .inl (fun _ => 0)))) fun q113 σ114 => ((pV σ114 12 a0 63 (.ref q113)).bind fun σ115 => (nw σ115 (.inl (4, (6, .inl (fun _ => 0)))) fun q116 σ117 => ((pV σ117 12 a0 64 (.ref q116)).bind fun σ118 => (nw σ118 (.inl (2, (6, .inl (fun _ => 0)))) fun q119 σ120 => ((pV σ120 12 a0 65 (.ref q119)).bind fun σ121 => (nw σ121 (.inl (2, (6, .inl (fun _ => 0)))) fun q122 σ123 => ((pV σ123 12 a0 66 (.ref q122)).bind fun σ124 => (nw σ124 (.inl (4, (3, .inl (fun _ => 0)))) fun q125 σ126 => ((pV σ126 12 a0 67 (.ref q125)).bind fun σ127 => (nw σ127 (.inl (2, (60, .inl (fun _ => 0)))) fun q128 σ129 => ((pV σ129 12 a0 68 (.ref q128)).bind fun σ130 => ((gR σ130 12 a0 25).bind fun t131 => ((sI σ130 2 t131 ((0 : Int32)) ((100 : Int32))).bind fun σ132 => ((gR σ132 12 a0 9).bind fun t133 => (cb (fX12_word ((98 : Int32)) ((111 : Int32)) ((111 : Int32)) ((107 : Int32)) ((0 : Int32)) ((0 : Int32)) ((0 : Int32)) σ132) fun r135 σ134 => ((sL σ134 3 t133 ((0 : Int32)) r135).bind fun σ136 => ((gR σ136 12 a0 9).bind fun t137 => (cb (fX12_word ((104 : Int32)) ((101 : Int32)) ((97 : Int32)) ((118 : Int32)) ((121 : Int32)) ((0 : Int32)) ((0 : Int32)) σ136) fun r139 σ138 => ((sL σ138 3 t137 ((1 : Int32)) r139).bind fun σ140 => ((gR σ140 12 a0 9).bind fun t141 => (cb (fX12_word ((116 : Int32)) ((97 : Int32)) ((98 : Int32)) ((108 : Int32)) ((101 : Int32)) ((0 : Int32)) ((0 : Int32)) σ140) fun r143 σ142 => ((sL σ142 3 t141 ((2 : Int32)) r143).bind fun σ144 => ((gR σ144 12 a0 9).bind fun t145 => (cb (fX12_word ((112 : Int32)) ((105 : Int32)) ((108 : Int32)) ((101 : Int32)) ((0 : Int32)) ((0 : Int32)) ((0 : Int32)) σ144) fun r147 σ146 => ((sL σ146 3 t145 ((3 : Int32)) r147).bind fun σ148 => ((gR σ148 12 a0 9).bind fun t149 => (cb (fX12_word ((97 : Int32)) ((116 : Int32)) ((0 : Int32)) ((0 : Int32)) ((0 : Int32)) ((0 : Int32)) ((0 : Int32)) σ148) fun r151 σ150 => ((sL σ150 3 t149 ((4 : Int32)) r151).bind fun σ152 => ((gR σ152 12 a0 9).bind fun t153 => (cb (fX12_word ((103 : Int32)) ((108 : Int32)) ((117 : Int32)) ((101 : Int32)) ((100 : Int32)) ((0 : Int32)) ((0 : Int32)) σ152) fun r155 σ154 => ((sL σ154 3 t153 ((5 : Int32)) r155).bind fun σ156 => ((gR σ156 12 a0 9).bind fun t157 => (cb (fX12_word ((102 : Int32)) ((108 : Int32)) ((121 : Int32)) ((0 : Int32)) ((0 : Int32)) ((0 : Int32)) ((0 : Int32)) σ156) fun r159 σ158 => ((sL σ158 3 t157 ((6 : Int32)) r159).bind fun σ160 => ((gR σ160 12 a0 9).bind fun t161 => (cb (fX12_word ((111 : Int32)) ((110 : Int32)) ((0 : Int32)) ((0 : Int32)) ((0 : Int32)) ((0 : Int32)) ((0 : Int32)) σ160) fun r163 σ162 => ((sL σ162 3 t161 ((7 : Int32)) r163).bind fun σ164 => ((gR σ164 12 a0 9).bind fun t165 => (cb (fX12_word ((105 : Int32)) ((102 : Int32)) ((0 : Int32)) ((0 : Int32)) ((0 : Int32)) ((0 : Int32)) ((0 : Int32)) σ164) fun r167 σ166 => ((sL σ166 3 t165 ((8 : Int32)) r167).bind fun σ168 => ((gR σ168 12 a0 9).bind fun t169 => (cb (fX12_word ((116 : Int32)) ((104 : Int32)) ((101 : Int32)) ((110 : Int32)) ((0 : Int32)) ((0 : Int32)) ((0 : Int32)) σ168) fun r171 σ170 => ((sL σ170 3 t169 ((9 : Int32)) r171).bind fun σ172 => ((gR σ172 12 a0 9).bind fun t173 => (cb (fX12_word ((101 : Int32)) ((108 : Int32)) ((115 : Int32)) ((101 : Int32)) ((0 : Int32)) ((0 : Int32)) ((0 : Int32)) σ172) fun r175 σ174 => ((sL σ174 3 t173 ((10 : Int32)) r175).bind fun σ176 => ((gR σ176 12 a0 9).bind fun t177 => (cb (fX12_word ((108 : Int32)) ((111 : Int32)) ((110 : Int32)) ((103 : Int32)) ((0 : Int32)) ((0 : Int32)) ((0 : Int32)) σ176) fun r179 σ178 => ((sL σ178 3 t177 ((11 : Int32)) r179).bind fun σ180 => ((gR σ180 12 a0 9).bind fun t181 => (cb (fX12_word ((116 : Int32)) ((111 : Int32)) ((108 : Int32)) ((100 : Int32)) ((0 : Int32)) ((0 : Int32)) ((0 : Int32)) σ180) fun r183 σ182 => ((sL σ182 3 t181 ((12 : Int32)) r183).bind fun σ184 => ((gR σ184 12 a0 9).bind fun t185 => (cb (fX12_word ((108 : Int32)) ((101 : Int32)) ((118 : Int32)) ((101 : Int32)) ((108 : Int32)) ((0 : Int32)) ((0 : Int32)) σ184) fun r187 σ186 => ((sL σ186 3 t185 ((13 : Int32)) r187).bind fun σ188 => ((gR σ188 12 a0 9).bind fun t189 => (cb (fX12_word ((112 : Int32)) ((108 : Int32)) ((97 : Int32)) ((99 : Int32)) ((101 : Int32)) ((0 : Int32)) ((0 : Int32)) σ188) fun r191 σ190 => ((sL σ190 3 t189 ((14 : Int32)) r191).bind fun σ192 => ((gR σ192 12 a0 9).bind fun t193 => (cb (fX12_word ((97 : Int32)) ((98 : Int32)) ((111 : Int32)) ((118 : Int32)) ((101 : Int32)) ((0 : Int32)) ((0 : Int32)) σ192) fun r195 σ194 => ((sL σ194 3 t193 ((15 : Int32)) r195).bind fun σ196 => (some ((), σ196)))))))))))))))))))))))))))))))))))))))))))))))))))))))))))))))))))))))))))))))))))))))))))))))))))))))))))))))))))))))))))))))))))))))))))
set_option maxHeartbeats 8000000 in
set_option maxRecDepth 20000 in
theorem kX12_init (G : GP) (a0 : Nat) (σ : Sto) : Me G mX12_init 3 43 10542 jV [.ref a0] σ (fX12_init a0 σ) := by
  refine hs_me (lv := [(0, .ref a0)]) (plainFor_of_name (by decide +kernel)) (Nat.le_of_ble_eq_true rfl) rfl ?_
  unfold fX12_init
  refine hj_aload_n 0 dX12_init_0 rfl ?_
  refine hj_oinit olX12_7 oo_i oo_c dX12_init_1 (Nat.le_of_ble_eq_true rfl) (Nat.le_of_ble_eq_true rfl) ?_
  refine hj_aload_n 0 dX12_init_4 rfl ?_
  refine hj_sipush (2000 : Int32) dX12_init_5 (by decide) ?_
  refine hj_newa (t := 0) (N := 2000) (ty := .byte) (2000, .inl (fun _ => 0)) ac_byte rfl (fun _ => rfl) (fun _ _ _ h1 h2 => Option.some.inj (h1.symm.trans h2)) (fun _ => rfl) (fun _ => rfl) (by decide) (by decide) (by decide) dX12_init_8 (Nat.le_of_ble_eq_true rfl) (Nat.le_of_ble_eq_true rfl) (fun q1 σ2 => ?_)
  refine hj_put fpX12_13 (fun _ => rfl) (fun _ => rfl) dX12_init_10 (fun σ3 _ => ?_)
  refine hj_aload_n 0 dX12_init_13 rfl ?_
  refine hj_sipush (2000 : Int32) dX12_init_14 (by decide) ?_
  refine hj_newa (t := 0) (N := 2000) (ty := .byte) (2000, .inl (fun _ => 0)) ac_byte rfl (fun _ => rfl) (fun _ _ _ h1 h2 => Option.some.inj (h1.symm.trans h2)) (fun _ => rfl) (fun _ => rfl) (by decide) (by decide) (by decide) dX12_init_17 (Nat.le_of_ble_eq_true rfl) (Nat.le_of_ble_eq_true rfl) (fun q4 σ5 => ?_)
  refine hj_put fpX12_17 (fun _ => rfl) (fun _ => rfl) dX12_init_19 (fun σ6 _ => ?_)
  refine hj_aload_n 0 dX12_init_22 rfl ?_
  refine hj_sipush (403 : Int32) dX12_init_23 (by decide) ?_
  refine hj_newa (t := 2) (N := 403) (ty := .int) (403, .inl (fun _ => 0)) ac_int rfl (fun _ => rfl) (fun _ _ _ h1 h2 => Option.some.inj (h1.symm.trans h2)) (fun _ => rfl) (fun _ => rfl) (by decide) (by decide) (by decide) dX12_init_26 (Nat.le_of_ble_eq_true rfl) (Nat.le_of_ble_eq_true rfl) (fun q7 σ8 => ?_)
  refine hj_put fpX12_20 (fun _ => rfl) (fun _ => rfl) dX12_init_28 (fun σ9 _ => ?_)
  refine hj_aload_n 0 dX12_init_31 rfl ?_
  refine hj_sipush (403 : Int32) dX12_init_32 (by decide) ?_
  refine hj_newa (t := 2) (N := 403) (ty := .int) (403, .inl (fun _ => 0)) ac_int rfl (fun _ => rfl) (fun _ _ _ h1 h2 => Option.some.inj (h1.symm.trans h2)) (fun _ => rfl) (fun _ => rfl) (by decide) (by decide) (by decide) dX12_init_35 (Nat.le_of_ble_eq_true rfl) (Nat.le_of_ble_eq_true rfl) (fun q10 σ11 => ?_)
  refine hj_put fpX12_24 (fun _ => rfl) (fun _ => rfl) dX12_init_37 (fun σ12 _ => ?_)
  refine hj_aload_n 0 dX12_init_40 rfl ?_
  refine hj_sipush (403 : Int32) dX12_init_41 (by decide) ?_
  refine hj_newa (t := 2) (N := 403) (ty := .int) (403, .inl (fun _ => 0)) ac_int rfl (fun _ => rfl) (fun _ _ _ h1 h2 => Option.some.inj (h1.symm.trans h2)) (fun _ => rfl) (fun _ => rfl) (by decide) (by decide) (by decide) dX12_init_44 (Nat.le_of_ble_eq_true rfl) (Nat.le_of_ble_eq_true rfl) (fun q13 σ14 => ?_)
  refine hj_put fpX12_27 (fun _ => rfl) (fun _ => rfl) dX12_init_46 (fun σ15 _ => ?_)
  refine hj_aload_n 0 dX12_init_49 rfl ?_
  refine hj_sipush (403 : Int32) dX12_init_50 (by decide) ?_
  refine hj_newa (t := 3) (N := 403) (ty := .long) (403, .inr (.inl (fun _ => 0))) ac_long rfl (fun _ => rfl) (fun _ _ _ h1 h2 => Option.some.inj (h1.symm.trans h2)) (fun _ => rfl) (fun _ => rfl) (by decide) (by decide) (by decide) dX12_init_53 (Nat.le_of_ble_eq_true rfl) (Nat.le_of_ble_eq_true rfl) (fun q16 σ17 => ?_)
  refine hj_put fpX12_30 (fun _ => rfl) (fun _ => rfl) dX12_init_55 (fun σ18 _ => ?_)
  refine hj_aload_n 0 dX12_init_58 rfl ?_
  refine hj_bipush (16 : Int32) dX12_init_59 (by decide) ?_
  refine hj_newa (t := 3) (N := 16) (ty := .long) (16, .inr (.inl (fun _ => 0))) ac_long rfl (fun _ => rfl) (fun _ _ _ h1 h2 => Option.some.inj (h1.symm.trans h2)) (fun _ => rfl) (fun _ => rfl) (by decide) (by decide) (by decide) dX12_init_61 (Nat.le_of_ble_eq_true rfl) (Nat.le_of_ble_eq_true rfl) (fun q19 σ20 => ?_)
  refine hj_put fpX12_34 (fun _ => rfl) (fun _ => rfl) dX12_init_63 (fun σ21 _ => ?_)
  refine hj_aload_n 0 dX12_init_66 rfl ?_
  refine hj_iconst (-1 : Int32) dX12_init_67 (by decide) ?_
  refine hj_put (fpX12_37 _) (fun _ => rfl) (fun _ => rfl) dX12_init_68 (fun σ22 _ => ?_)
  refine hj_aload_n 0 dX12_init_71 rfl ?_
  refine hj_bipush (6 : Int32) dX12_init_72 (by decide) ?_
  refine hj_newa (t := 3) (N := 6) (ty := .long) (6, .inr (.inl (fun _ => 0))) ac_long rfl (fun _ => rfl) (fun _ _ _ h1 h2 => Option.some.inj (h1.symm.trans h2)) (fun _ => rfl) (fun _ => rfl) (by decide) (by decide) (by decide) dX12_init_74 (Nat.le_of_ble_eq_true rfl) (Nat.le_of_ble_eq_true rfl) (fun q23 σ24 => ?_)
  refine hj_put fpX12_40 (fun _ => rfl) (fun _ => rfl) dX12_init_76 (fun σ25 _ => ?_)
  refine hj_aload_n 0 dX12_init_79 rfl ?_
  refine hj_iconst (2 : Int32) dX12_init_80 (by decide) ?_
  refine hj_newa (t := 2) (N := 2) (ty := .int) (2, .inl (fun _ => 0)) ac_int rfl (fun _ => rfl) (fun _ _ _ h1 h2 => Option.some.inj (h1.symm.trans h2)) (fun _ => rfl) (fun _ => rfl) (by decide) (by decide) (by decide) dX12_init_81 (Nat.le_of_ble_eq_true rfl) (Nat.le_of_ble_eq_true rfl) (fun q26 σ27 => ?_)
  refine hj_put fpX12_43 (fun _ => rfl) (fun _ => rfl) dX12_init_83 (fun σ28 _ => ?_)
  refine hj_aload_n 0 dX12_init_86 rfl ?_
  refine hj_bipush (12 : Int32) dX12_init_87 (by decide) ?_
  refine hj_newa (t := 2) (N := 12) (ty := .int) (12, .inl (fun _ => 0)) ac_int rfl (fun _ => rfl) (fun _ _ _ h1 h2 => Option.some.inj (h1.symm.trans h2)) (fun _ => rfl) (fun _ => rfl) (by decide) (by decide) (by decide) dX12_init_89 (Nat.le_of_ble_eq_true rfl) (Nat.le_of_ble_eq_true rfl) (fun q29 σ30 => ?_)
  refine hj_put fpX12_46 (fun _ => rfl) (fun _ => rfl) dX12_init_91 (fun σ31 _ => ?_)
  refine hj_aload_n 0 dX12_init_94 rfl ?_
  refine hj_bipush (12 : Int32) dX12_init_95 (by decide) ?_
  refine hj_newa (t := 2) (N := 12) (ty := .int) (12, .inl (fun _ => 0)) ac_int rfl (fun _ => rfl) (fun _ _ _ h1 h2 => Option.some.inj (h1.symm.trans h2)) (fun _ => rfl) (fun _ => rfl) (by decide) (by decide) (by decide) dX12_init_97 (Nat.le_of_ble_eq_true rfl) (Nat.le_of_ble_eq_true rfl) (fun q32 σ33 => ?_)
  refine hj_put fpX12_49 (fun _ => rfl) (fun _ => rfl) dX12_init_99 (fun σ34 _ => ?_)
  refine hj_aload_n 0 dX12_init_102 rfl ?_
  refine hj_iconst (2 : Int32) dX12_init_103 (by decide) ?_
  refine hj_newa (t := 2) (N := 2) (ty := .int) (2, .inl (fun _ => 0)) ac_int rfl (fun _ => rfl) (fun _ _ _ h1 h2 => Option.some.inj (h1.symm.trans h2)) (fun _ => rfl) (fun _ => rfl) (by decide) (by decide) (by decide) dX12_init_104 (Nat.le_of_ble_eq_true rfl) (Nat.le_of_ble_eq_true rfl) (fun q35 σ36 => ?_)
  refine hj_put fpX12_52 (fun _ => rfl) (fun _ => rfl) dX12_init_106 (fun σ37 _ => ?_)
  refine hj_aload_n 0 dX12_init_109 rfl ?_
  refine hj_iconst (2 : Int32) dX12_init_110 (by decide) ?_
  refine hj_newa (t := 2) (N := 2) (ty := .int) (2, .inl (fun _ => 0)) ac_int rfl (fun _ => rfl) (fun _ _ _ h1 h2 => Option.some.inj (h1.symm.trans h2)) (fun _ => rfl) (fun _ => rfl) (by decide) (by decide) (by decide) dX12_init_111 (Nat.le_of_ble_eq_true rfl) (Nat.le_of_ble_eq_true rfl) (fun q38 σ39 => ?_)
  refine hj_put fpX12_55 (fun _ => rfl) (fun _ => rfl) dX12_init_113 (fun σ40 _ => ?_)
  refine hj_aload_n 0 dX12_init_116 rfl ?_
  refine hj_bipush (12 : Int32) dX12_init_117 (by decide) ?_
  refine hj_newa (t := 2) (N := 12) (ty := .int) (12, .inl (fun _ => 0)) ac_int rfl (fun _ => rfl) (fun _ _ _ h1 h2 => Option.some.inj (h1.symm.trans h2)) (fun _ => rfl) (fun _ => rfl) (by decide) (by decide) (by decide) dX12_init_119 (Nat.le_of_ble_eq_true rfl) (Nat.le_of_ble_eq_true rfl) (fun q41 σ42 => ?_)
  refine hj_put fpX12_58 (fun _ => rfl) (fun _ => rfl) dX12_init_121 (fun σ43 _ => ?_)
  refine hj_aload_n 0 dX12_init_124 rfl ?_
  refine hj_bipush (12 : Int32) dX12_init_125 (by decide) ?_
  refine hj_newa (t := 2) (N := 12) (ty := .int) (12, .inl (fun _ => 0)) ac_int rfl (fun _ => rfl) (fun _ _ _ h1 h2 => Option.some.inj (h1.symm.trans h2)) (fun _ => rfl) (fun _ => rfl) (by decide) (by decide) (by decide) dX12_init_127 (Nat.le_of_ble_eq_true rfl) (Nat.le_of_ble_eq_true rfl) (fun q44 σ45 => ?_)
  refine hj_put fpX12_61 (fun _ => rfl) (fun _ => rfl) dX12_init_129 (fun σ46 _ => ?_)
  refine hj_aload_n 0 dX12_init_132 rfl ?_
  refine hj_bipush (12 : Int32) dX12_init_133 (by decide) ?_
  refine hj_newa (t := 2) (N := 12) (ty := .int) (12, .inl (fun _ => 0)) ac_int rfl (fun _ => rfl) (fun _ _ _ h1 h2 => Option.some.inj (h1.symm.trans h2)) (fun _ => rfl) (fun _ => rfl) (by decide) (by decide) (by decide) dX12_init_135 (Nat.le_of_ble_eq_true rfl) (Nat.le_of_ble_eq_true rfl) (fun q47 σ48 => ?_)
  refine hj_put fpX12_64 (fun _ => rfl) (fun _ => rfl) dX12_init_137 (fun σ49 _ => ?_)
  refine hj_aload_n 0 dX12_init_140 rfl ?_
  refine hj_bipush (40 : Int32) dX12_init_141 (by decide) ?_
  refine hj_newa (t := 2) (N := 40) (ty := .int) (40, .inl (fun _ => 0)) ac_int rfl (fun _ => rfl) (fun _ _ _ h1 h2 => Option.some.inj (h1.symm.trans h2)) (fun _ => rfl) (fun _ => rfl) (by decide) (by decide) (by decide) dX12_init_143 (Nat.le_of_ble_eq_true rfl) (Nat.le_of_ble_eq_true rfl) (fun q50 σ51 => ?_)
  refine hj_put fpX12_67 (fun _ => rfl) (fun _ => rfl) dX12_init_145 (fun σ52 _ => ?_)
  refine hj_aload_n 0 dX12_init_148 rfl ?_
  refine hj_bipush (12 : Int32) dX12_init_149 (by decide) ?_
  refine hj_newa (t := 2) (N := 12) (ty := .int) (12, .inl (fun _ => 0)) ac_int rfl (fun _ => rfl) (fun _ _ _ h1 h2 => Option.some.inj (h1.symm.trans h2)) (fun _ => rfl) (fun _ => rfl) (by decide) (by decide) (by decide) dX12_init_151 (Nat.le_of_ble_eq_true rfl) (Nat.le_of_ble_eq_true rfl) (fun q53 σ54 => ?_)
  refine hj_put fpX12_70 (fun _ => rfl) (fun _ => rfl) dX12_init_153 (fun σ55 _ => ?_)
  refine hj_aload_n 0 dX12_init_156 rfl ?_
  refine hj_bipush (12 : Int32) dX12_init_157 (by decide) ?_
  refine hj_newa (t := 2) (N := 12) (ty := .int) (12, .inl (fun _ => 0)) ac_int rfl (fun _ => rfl) (fun _ _ _ h1 h2 => Option.some.inj (h1.symm.trans h2)) (fun _ => rfl) (fun _ => rfl) (by decide) (by decide) (by decide) dX12_init_159 (Nat.le_of_ble_eq_true rfl) (Nat.le_of_ble_eq_true rfl) (fun q56 σ57 => ?_)
  refine hj_put fpX12_73 (fun _ => rfl) (fun _ => rfl) dX12_init_161 (fun σ58 _ => ?_)
  refine hj_aload_n 0 dX12_init_164 rfl ?_
  refine hj_sipush (260 : Int32) dX12_init_165 (by decide) ?_
  refine hj_newa (t := 4) (N := 260) (ty := .boolean) (260, .inl (fun _ => 0)) ac_boolean rfl (fun _ => rfl) (fun _ _ _ h1 h2 => Option.some.inj (h1.symm.trans h2)) (fun _ => rfl) (fun _ => rfl) (by decide) (by decide) (by decide) dX12_init_168 (Nat.le_of_ble_eq_true rfl) (Nat.le_of_ble_eq_true rfl) (fun q59 σ60 => ?_)
  refine hj_put fpX12_76 (fun _ => rfl) (fun _ => rfl) dX12_init_170 (fun σ61 _ => ?_)
  refine hj_aload_n 0 dX12_init_173 rfl ?_
  refine hj_sipush (260 : Int32) dX12_init_174 (by decide) ?_
  refine hj_newa (t := 2) (N := 260) (ty := .int) (260, .inl (fun _ => 0)) ac_int rfl (fun _ => rfl) (fun _ _ _ h1 h2 => Option.some.inj (h1.symm.trans h2)) (fun _ => rfl) (fun _ => rfl) (by decide) (by decide) (by decide) dX12_init_177 (Nat.le_of_ble_eq_true rfl) (Nat.le_of_ble_eq_true rfl) (fun q62 σ63 => ?_)
  refine hj_put fpX12_80 (fun _ => rfl) (fun _ => rfl) dX12_init_179 (fun σ64 _ => ?_)
  refine hj_aload_n 0 dX12_init_182 rfl ?_
  refine hj_sipush (260 : Int32) dX12_init_183 (by decide) ?_
  refine hj_newa (t := 2) (N := 260) (ty := .int) (260, .inl (fun _ => 0)) ac_int rfl (fun _ => rfl) (fun _ _ _ h1 h2 => Option.some.inj (h1.symm.trans h2)) (fun _ => rfl) (fun _ => rfl) (by decide) (by decide) (by decide) dX12_init_186 (Nat.le_of_ble_eq_true rfl) (Nat.le_of_ble_eq_true rfl) (fun q65 σ66 => ?_)
  refine hj_put fpX12_83 (fun _ => rfl) (fun _ => rfl) dX12_init_188 (fun σ67 _ => ?_)
  refine hj_aload_n 0 dX12_init_191 rfl ?_
  refine hj_sipush (260 : Int32) dX12_init_192 (by decide) ?_
  refine hj_newa (t := 2) (N := 260) (ty := .int) (260, .inl (fun _ => 0)) ac_int rfl (fun _ => rfl) (fun _ _ _ h1 h2 => Option.some.inj (h1.symm.trans h2)) (fun _ => rfl) (fun _ => rfl) (by decide) (by decide) (by decide) dX12_init_195 (Nat.le_of_ble_eq_true rfl) (Nat.le_of_ble_eq_true rfl) (fun q68 σ69 => ?_)
  refine hj_put fpX12_86 (fun _ => rfl) (fun _ => rfl) dX12_init_197 (fun σ70 _ => ?_)
  refine hj_aload_n 0 dX12_init_200 rfl ?_
  refine hj_sipush (260 : Int32) dX12_init_201 (by decide) ?_
  refine hj_newa (t := 2) (N := 260) (ty := .int) (260, .inl (fun _ => 0)) ac_int rfl (fun _ => rfl) (fun _ _ _ h1 h2 => Option.some.inj (h1.symm.trans h2)) (fun _ => rfl) (fun _ => rfl) (by decide) (by decide) (by decide) dX12_init_204 (Nat.le_of_ble_eq_true rfl) (Nat.le_of_ble_eq_true rfl) (fun q71 σ72 => ?_)
  refine hj_put fpX12_89 (fun _ => rfl) (fun _ => rfl) dX12_init_206 (fun σ73 _ => ?_)
  refine hj_aload_n 0 dX12_init_209 rfl ?_
  refine hj_sipush (840 : Int32) dX12_init_210 (by decide) ?_
  refine hj_newa (t := 2) (N := 840) (ty := .int) (840, .inl (fun _ => 0)) ac_int rfl (fun _ => rfl) (fun _ _ _ h1 h2 => Option.some.inj (h1.symm.trans h2)) (fun _ => rfl) (fun _ => rfl) (by decide) (by decide) (by decide) dX12_init_213 (Nat.le_of_ble_eq_true rfl) (Nat.le_of_ble_eq_true rfl) (fun q74 σ75 => ?_)
  refine hj_put fpX12_92 (fun _ => rfl) (fun _ => rfl) dX12_init_215 (fun σ76 _ => ?_)
  refine hj_aload_n 0 dX12_init_218 rfl ?_
  refine hj_sipush (840 : Int32) dX12_init_219 (by decide) ?_
  refine hj_newa (t := 2) (N := 840) (ty := .int) (840, .inl (fun _ => 0)) ac_int rfl (fun _ => rfl) (fun _ _ _ h1 h2 => Option.some.inj (h1.symm.trans h2)) (fun _ => rfl) (fun _ => rfl) (by decide) (by decide) (by decide) dX12_init_222 (Nat.le_of_ble_eq_true rfl) (Nat.le_of_ble_eq_true rfl) (fun q77 σ78 => ?_)
  refine hj_put fpX12_95 (fun _ => rfl) (fun _ => rfl) dX12_init_224 (fun σ79 _ => ?_)
  refine hj_aload_n 0 dX12_init_227 rfl ?_
  refine hj_bipush (64 : Int32) dX12_init_228 (by decide) ?_
  refine hj_newa (t := 2) (N := 64) (ty := .int) (64, .inl (fun _ => 0)) ac_int rfl (fun _ => rfl) (fun _ _ _ h1 h2 => Option.some.inj (h1.symm.trans h2)) (fun _ => rfl) (fun _ => rfl) (by decide) (by decide) (by decide) dX12_init_230 (Nat.le_of_ble_eq_true rfl) (Nat.le_of_ble_eq_true rfl) (fun q80 σ81 => ?_)
  refine hj_put fpX12_98 (fun _ => rfl) (fun _ => rfl) dX12_init_232 (fun σ82 _ => ?_)
  refine hj_aload_n 0 dX12_init_235 rfl ?_
  refine hj_iconst (5 : Int32) dX12_init_236 (by decide) ?_
  refine hj_newa (t := 2) (N := 5) (ty := .int) (5, .inl (fun _ => 0)) ac_int rfl (fun _ => rfl) (fun _ _ _ h1 h2 => Option.some.inj (h1.symm.trans h2)) (fun _ => rfl) (fun _ => rfl) (by decide) (by decide) (by decide) dX12_init_237 (Nat.le_of_ble_eq_true rfl) (Nat.le_of_ble_eq_true rfl) (fun q83 σ84 => ?_)
  refine hj_put fpX12_101 (fun _ => rfl) (fun _ => rfl) dX12_init_239 (fun σ85 _ => ?_)
  refine hj_aload_n 0 dX12_init_242 rfl ?_
  refine hj_sipush (400 : Int32) dX12_init_243 (by decide) ?_
  refine hj_newa (t := 2) (N := 400) (ty := .int) (400, .inl (fun _ => 0)) ac_int rfl (fun _ => rfl) (fun _ _ _ h1 h2 => Option.some.inj (h1.symm.trans h2)) (fun _ => rfl) (fun _ => rfl) (by decide) (by decide) (by decide) dX12_init_246 (Nat.le_of_ble_eq_true rfl) (Nat.le_of_ble_eq_true rfl) (fun q86 σ87 => ?_)
  refine hj_put fpX12_104 (fun _ => rfl) (fun _ => rfl) dX12_init_248 (fun σ88 _ => ?_)
  refine hj_aload_n 0 dX12_init_251 rfl ?_
  refine hj_bipush (20 : Int32) dX12_init_252 (by decide) ?_
  refine hj_newa (t := 2) (N := 20) (ty := .int) (20, .inl (fun _ => 0)) ac_int rfl (fun _ => rfl) (fun _ _ _ h1 h2 => Option.some.inj (h1.symm.trans h2)) (fun _ => rfl) (fun _ => rfl) (by decide) (by decide) (by decide) dX12_init_254 (Nat.le_of_ble_eq_true rfl) (Nat.le_of_ble_eq_true rfl) (fun q89 σ90 => ?_)
  refine hj_put fpX12_107 (fun _ => rfl) (fun _ => rfl) dX12_init_256 (fun σ91 _ => ?_)
  refine hj_aload_n 0 dX12_init_259 rfl ?_
  refine hj_bipush (20 : Int32) dX12_init_260 (by decide) ?_
  refine hj_newa (t := 2) (N := 20) (ty := .int) (20, .inl (fun _ => 0)) ac_int rfl (fun _ => rfl) (fun _ _ _ h1 h2 => Option.some.inj (h1.symm.trans h2)) (fun _ => rfl) (fun _ => rfl) (by decide) (by decide) (by decide) dX12_init_262 (Nat.le_of_ble_eq_true rfl) (Nat.le_of_ble_eq_true rfl) (fun q92 σ93 => ?_)
  refine hj_put fpX12_110 (fun _ => rfl) (fun _ => rfl) dX12_init_264 (fun σ94 _ => ?_)
  refine hj_aload_n 0 dX12_init_267 rfl ?_
  refine hj_bipush (6 : Int32) dX12_init_268 (by decide) ?_
  refine hj_newa (t := 2) (N := 6) (ty := .int) (6, .inl (fun _ => 0)) ac_int rfl (fun _ => rfl) (fun _ _ _ h1 h2 => Option.some.inj (h1.symm.trans h2)) (fun _ => rfl) (fun _ => rfl) (by decide) (by decide) (by decide) dX12_init_270 (Nat.le_of_ble_eq_true rfl) (Nat.le_of_ble_eq_true rfl) (fun q95 σ96 => ?_)
  refine hj_put fpX12_113 (fun _ => rfl) (fun _ => rfl) dX12_init_272 (fun σ97 _ => ?_)
  refine hj_aload_n 0 dX12_init_275 rfl ?_
  refine hj_bipush (6 : Int32) dX12_init_276 (by decide) ?_
  refine hj_newa (t := 3) (N := 6) (ty := .long) (6, .inr (.inl (fun _ => 0))) ac_long rfl (fun _ => rfl) (fun _ _ _ h1 h2 => Option.some.inj (h1.symm.trans h2)) (fun _ => rfl) (fun _ => rfl) (by decide) (by decide) (by decide) dX12_init_278 (Nat.le_of_ble_eq_true rfl) (Nat.le_of_ble_eq_true rfl) (fun q98 σ99 => ?_)
  refine hj_put fpX12_116 (fun _ => rfl) (fun _ => rfl) dX12_init_280 (fun σ100 _ => ?_)
  refine hj_aload_n 0 dX12_init_283 rfl ?_
  refine hj_bipush (6 : Int32) dX12_init_284 (by decide) ?_
  refine hj_newa (t := 3) (N := 6) (ty := .long) (6, .inr (.inl (fun _ => 0))) ac_long rfl (fun _ => rfl) (fun _ _ _ h1 h2 => Option.some.inj (h1.symm.trans h2)) (fun _ => rfl) (fun _ => rfl) (by decide) (by decide) (by decide) dX12_init_286 (Nat.le_of_ble_eq_true rfl) (Nat.le_of_ble_eq_true rfl) (fun q101 σ102 => ?_)
  refine hj_put fpX12_119 (fun _ => rfl) (fun _ => rfl) dX12_init_288 (fun σ103 _ => ?_)
  refine hj_aload_n 0 dX12_init_291 rfl ?_
  refine hj_sipush (1000 : Int32) dX12_init_292 (by decide) ?_
  refine hj_newa (t := 2) (N := 1000) (ty := .int) (1000, .inl (fun _ => 0)) ac_int rfl (fun _ => rfl) (fun _ _ _ h1 h2 => Option.some.inj (h1.symm.trans h2)) (fun _ => rfl) (fun _ => rfl) (by decide) (by decide) (by decide) dX12_init_295 (Nat.le_of_ble_eq_true rfl) (Nat.le_of_ble_eq_true rfl) (fun q104 σ105 => ?_)
  refine hj_put fpX12_122 (fun _ => rfl) (fun _ => rfl) dX12_init_297 (fun σ106 _ => ?_)
  refine hj_aload_n 0 dX12_init_300 rfl ?_
  refine hj_bipush (64 : Int32) dX12_init_301 (by decide) ?_
  refine hj_newa (t := 2) (N := 64) (ty := .int) (64, .inl (fun _ => 0)) ac_int rfl (fun _ => rfl) (fun _ _ _ h1 h2 => Option.some.inj (h1.symm.trans h2)) (fun _ => rfl) (fun _ => rfl) (by decide) (by decide) (by decide) dX12_init_303 (Nat.le_of_ble_eq_true rfl) (Nat.le_of_ble_eq_true rfl) (fun q107 σ108 => ?_)
  refine hj_put fpX12_125 (fun _ => rfl) (fun _ => rfl) dX12_init_305 (fun σ109 _ => ?_)
  refine hj_aload_n 0 dX12_init_308 rfl ?_
  refine hj_bipush (6 : Int32) dX12_init_309 (by decide) ?_
  refine hj_newa (t := 2) (N := 6) (ty := .int) (6, .inl (fun _ => 0)) ac_int rfl (fun _ => rfl) (fun _ _ _ h1 h2 => Option.some.inj (h1.symm.trans h2)) (fun _ => rfl) (fun _ => rfl) (by decide) (by decide) (by decide) dX12_init_311 (Nat.le_of_ble_eq_true rfl) (Nat.le_of_ble_eq_true rfl) (fun q110 σ111 => ?_)
  refine hj_put fpX12_128 (fun _ => rfl) (fun _ => rfl) dX12_init_313 (fun σ112 _ => ?_)
  refine hj_aload_n 0 dX12_init_316 rfl ?_
  refine hj_bipush (120 : Int32) dX12_init_317 (by decide) ?_
  refine hj_newa (t := 2) (N := 120) (ty := .int) (120, .inl (fun _ => 0)) ac_int rfl (fun _ => rfl) (fun _ _ _ h1 h2 => Option.some.inj (h1.symm.trans h2)) (fun _ => rfl) (fun _ => rfl) (by decide) (by decide) (by decide) dX12_init_319 (Nat.le_of_ble_eq_true rfl) (Nat.le_of_ble_eq_true rfl) (fun q113 σ114 => ?_)
  refine hj_put fpX12_131 (fun _ => rfl) (fun _ => rfl) dX12_init_321 (fun σ115 _ => ?_)
  refine hj_aload_n 0 dX12_init_324 rfl ?_
  refine hj_bipush (6 : Int32) dX12_init_325 (by decide) ?_
  refine hj_newa (t := 4) (N := 6) (ty := .boolean) (6, .inl (fun _ => 0)) ac_boolean rfl (fun _ => rfl) (fun _ _ _ h1 h2 => Option.some.inj (h1.symm.trans h2)) (fun _ => rfl) (fun _ => rfl) (by decide) (by decide) (by decide) dX12_init_327 (Nat.le_of_ble_eq_true rfl) (Nat.le_of_ble_eq_true rfl) (fun q116 σ117 => ?_)
  refine hj_put fpX12_134 (fun _ => rfl) (fun _ => rfl) dX12_init_329 (fun σ118 _ => ?_)
  refine hj_aload_n 0 dX12_init_332 rfl ?_
  refine hj_bipush (6 : Int32) dX12_init_333 (by decide) ?_
  refine hj_newa (t := 2) (N := 6) (ty := .int) (6, .inl (fun _ => 0)) ac_int rfl (fun _ => rfl) (fun _ _ _ h1 h2 => Option.some.inj (h1.symm.trans h2)) (fun _ => rfl) (fun _ => rfl) (by decide) (by decide) (by decide) dX12_init_335 (Nat.le_of_ble_eq_true rfl) (Nat.le_of_ble_eq_true rfl) (fun q119 σ120 => ?_)
  refine hj_put fpX12_137 (fun _ => rfl) (fun _ => rfl) dX12_init_337 (fun σ121 _ => ?_)
  refine hj_aload_n 0 dX12_init_340 rfl ?_
  refine hj_bipush (6 : Int32) dX12_init_341 (by decide) ?_
  refine hj_newa (t := 2) (N := 6) (ty := .int) (6, .inl (fun _ => 0)) ac_int rfl (fun _ => rfl) (fun _ _ _ h1 h2 => Option.some.inj (h1.symm.trans h2)) (fun _ => rfl) (fun _ => rfl) (by decide) (by decide) (by decide) dX12_init_343 (Nat.le_of_ble_eq_true rfl) (Nat.le_of_ble_eq_true rfl) (fun q122 σ123 => ?_)
  refine hj_put fpX12_140 (fun _ => rfl) (fun _ => rfl) dX12_init_345 (fun σ124 _ => ?_)
  refine hj_aload_n 0 dX12_init_348 rfl ?_
  refine hj_iconst (3 : Int32) dX12_init_349 (by decide) ?_
  refine hj_newa (t := 4) (N := 3) (ty := .boolean) (3, .inl (fun _ => 0)) ac_boolean rfl (fun _ => rfl) (fun _ _ _ h1 h2 => Option.some.inj (h1.symm.trans h2)) (fun _ => rfl) (fun _ => rfl) (by decide) (by decide) (by decide) dX12_init_350 (Nat.le_of_ble_eq_true rfl) (Nat.le_of_ble_eq_true rfl) (fun q125 σ126 => ?_)
  refine hj_put fpX12_143 (fun _ => rfl) (fun _ => rfl) dX12_init_352 (fun σ127 _ => ?_)
  refine hj_aload_n 0 dX12_init_355 rfl ?_
  refine hj_bipush (60 : Int32) dX12_init_356 (by decide) ?_
  refine hj_newa (t := 2) (N := 60) (ty := .int) (60, .inl (fun _ => 0)) ac_int rfl (fun _ => rfl) (fun _ _ _ h1 h2 => Option.some.inj (h1.symm.trans h2)) (fun _ => rfl) (fun _ => rfl) (by decide) (by decide) (by decide) dX12_init_358 (Nat.le_of_ble_eq_true rfl) (Nat.le_of_ble_eq_true rfl) (fun q128 σ129 => ?_)
  refine hj_put fpX12_146 (fun _ => rfl) (fun _ => rfl) dX12_init_360 (fun σ130 _ => ?_)
  refine hj_aload_n 0 dX12_init_363 rfl ?_
  refine hj_getR flX12_52 dX12_init_364 (fun t131 _ => ?_)
  refine hj_iconst (0 : Int32) dX12_init_367 (by decide) ?_
  refine hj_bipush (100 : Int32) dX12_init_368 (by decide) ?_
  refine hj_iast dX12_init_370 (fun σ132 _ => ?_)
  refine hj_aload_n 0 dX12_init_371 rfl ?_
  refine hj_getR flX12_34 dX12_init_372 (fun t133 _ => ?_)
  refine hj_iconst (0 : Int32) dX12_init_375 (by decide) ?_
  refine hj_bipush (98 : Int32) dX12_init_376 (by decide) ?_
  refine hj_bipush (111 : Int32) dX12_init_378 (by decide) ?_
  refine hj_bipush (111 : Int32) dX12_init_380 (by decide) ?_
  refine hj_bipush (107 : Int32) dX12_init_382 (by decide) ?_
  refine hj_iconst (0 : Int32) dX12_init_384 (by decide) ?_
  refine hj_iconst (0 : Int32) dX12_init_385 (by decide) ?_
  refine hj_iconst (0 : Int32) dX12_init_386 (by decide) ?_
  refine hj_callS (M' := mX12_word) (h' := 2) (As := [.int ((98 : Int32)), .int ((111 : Int32)), .int ((111 : Int32)), .int ((107 : Int32)), .int ((0 : Int32)), .int ((0 : Int32)), .int ((0 : Int32))]) mfX12_word msX12_word mlX12_149 dX12_init_387 (kX12_word G _ _ _ _ _ _ _ _) ⟨Nat.le_of_ble_eq_true rfl, Nat.le_of_ble_eq_true rfl⟩ ⟨Nat.le_of_ble_eq_true rfl, Nat.le_of_ble_eq_true rfl⟩ rfl (Nat.le_of_ble_eq_true rfl) (fun r135 σ134 _ => ?_)
  refine hj_last dX12_init_390 (fun σ136 _ => ?_)
  refine hj_aload_n 0 dX12_init_391 rfl ?_
  refine hj_getR flX12_34 dX12_init_392 (fun t137 _ => ?_)
  refine hj_iconst (1 : Int32) dX12_init_395 (by decide) ?_
  refine hj_bipush (104 : Int32) dX12_init_396 (by decide) ?_
  refine hj_bipush (101 : Int32) dX12_init_398 (by decide) ?_
  refine hj_bipush (97 : Int32) dX12_init_400 (by decide) ?_
  refine hj_bipush (118 : Int32) dX12_init_402 (by decide) ?_
  refine hj_bipush (121 : Int32) dX12_init_404 (by decide) ?_
  refine hj_iconst (0 : Int32) dX12_init_406 (by decide) ?_
  refine hj_iconst (0 : Int32) dX12_init_407 (by decide) ?_
  refine hj_callS (M' := mX12_word) (h' := 2) (As := [.int ((104 : Int32)), .int ((101 : Int32)), .int ((97 : Int32)), .int ((118 : Int32)), .int ((121 : Int32)), .int ((0 : Int32)), .int ((0 : Int32))]) mfX12_word msX12_word mlX12_149 dX12_init_408 (kX12_word G _ _ _ _ _ _ _ _) ⟨Nat.le_of_ble_eq_true rfl, Nat.le_of_ble_eq_true rfl⟩ ⟨Nat.le_of_ble_eq_true rfl, Nat.le_of_ble_eq_true rfl⟩ rfl (Nat.le_of_ble_eq_true rfl) (fun r139 σ138 _ => ?_)
  refine hj_last dX12_init_411 (fun σ140 _ => ?_)
  refine hj_aload_n 0 dX12_init_412 rfl ?_
  refine hj_getR flX12_34 dX12_init_413 (fun t141 _ => ?_)
  refine hj_iconst (2 : Int32) dX12_init_416 (by decide) ?_
  refine hj_bipush (116 : Int32) dX12_init_417 (by decide) ?_
  refine hj_bipush (97 : Int32) dX12_init_419 (by decide) ?_
  refine hj_bipush (98 : Int32) dX12_init_421 (by decide) ?_
  refine hj_bipush (108 : Int32) dX12_init_423 (by decide) ?_
  refine hj_bipush (101 : Int32) dX12_init_425 (by decide) ?_
  refine hj_iconst (0 : Int32) dX12_init_427 (by decide) ?_
  refine hj_iconst (0 : Int32) dX12_init_428 (by decide) ?_
  refine hj_callS (M' := mX12_word) (h' := 2) (As := [.int ((116 : Int32)), .int ((97 : Int32)), .int ((98 : Int32)), .int ((108 : Int32)), .int ((101 : Int32)), .int ((0 : Int32)), .int ((0 : Int32))]) mfX12_word msX12_word mlX12_149 dX12_init_429 (kX12_word G _ _ _ _ _ _ _ _) ⟨Nat.le_of_ble_eq_true rfl, Nat.le_of_ble_eq_true rfl⟩ ⟨Nat.le_of_ble_eq_true rfl, Nat.le_of_ble_eq_true rfl⟩ rfl (Nat.le_of_ble_eq_true rfl) (fun r143 σ142 _ => ?_)
  refine hj_last dX12_init_432 (fun σ144 _ => ?_)
  refine hj_aload_n 0 dX12_init_433 rfl ?_
  refine hj_getR flX12_34 dX12_init_434 (fun t145 _ => ?_)
  refine hj_iconst (3 : Int32) dX12_init_437 (by decide) ?_
  refine hj_bipush (112 : Int32) dX12_init_438 (by decide) ?_
  refine hj_bipush (105 : Int32) dX12_init_440 (by decide) ?_
  refine hj_bipush (108 : Int32) dX12_init_442 (by decide) ?_
  refine hj_bipush (101 : Int32) dX12_init_444 (by decide) ?_
  refine hj_iconst (0 : Int32) dX12_init_446 (by decide) ?_
  refine hj_iconst (0 : Int32) dX12_init_447 (by decide) ?_
  refine hj_iconst (0 : Int32) dX12_init_448 (by decide) ?_
  refine hj_callS (M' := mX12_word) (h' := 2) (As := [.int ((112 : Int32)), .int ((105 : Int32)), .int ((108 : Int32)), .int ((101 : Int32)), .int ((0 : Int32)), .int ((0 : Int32)), .int ((0 : Int32))]) mfX12_word msX12_word mlX12_149 dX12_init_449 (kX12_word G _ _ _ _ _ _ _ _) ⟨Nat.le_of_ble_eq_true rfl, Nat.le_of_ble_eq_true rfl⟩ ⟨Nat.le_of_ble_eq_true rfl, Nat.le_of_ble_eq_true rfl⟩ rfl (Nat.le_of_ble_eq_true rfl) (fun r147 σ146 _ => ?_)
  refine hj_last dX12_init_452 (fun σ148 _ => ?_)
  refine hj_aload_n 0 dX12_init_453 rfl ?_
  refine hj_getR flX12_34 dX12_init_454 (fun t149 _ => ?_)
  refine hj_iconst (4 : Int32) dX12_init_457 (by decide) ?_
  refine hj_bipush (97 : Int32) dX12_init_458 (by decide) ?_
  refine hj_bipush (116 : Int32) dX12_init_460 (by decide) ?_
  refine hj_iconst (0 : Int32) dX12_init_462 (by decide) ?_
  refine hj_iconst (0 : Int32) dX12_init_463 (by decide) ?_
  refine hj_iconst (0 : Int32) dX12_init_464 (by decide) ?_
  refine hj_iconst (0 : Int32) dX12_init_465 (by decide) ?_
  refine hj_iconst (0 : Int32) dX12_init_466 (by decide) ?_
  refine hj_callS (M' := mX12_word) (h' := 2) (As := [.int ((97 : Int32)), .int ((116 : Int32)), .int ((0 : Int32)), .int ((0 : Int32)), .int ((0 : Int32)), .int ((0 : Int32)), .int ((0 : Int32))]) mfX12_word msX12_word mlX12_149 dX12_init_467 (kX12_word G _ _ _ _ _ _ _ _) ⟨Nat.le_of_ble_eq_true rfl, Nat.le_of_ble_eq_true rfl⟩ ⟨Nat.le_of_ble_eq_true rfl, Nat.le_of_ble_eq_true rfl⟩ rfl (Nat.le_of_ble_eq_true rfl) (fun r151 σ150 _ => ?_)
  refine hj_last dX12_init_470 (fun σ152 _ => ?_)
  refine hj_aload_n 0 dX12_init_471 rfl ?_
  refine hj_getR flX12_34 dX12_init_472 (fun t153 _ => ?_)
  refine hj_iconst (5 : Int32) dX12_init_475 (by decide) ?_
  refine hj_bipush (103 : Int32) dX12_init_476 (by decide) ?_
  refine hj_bipush (108 : Int32) dX12_init_478 (by decide) ?_
  refine hj_bipush (117 : Int32) dX12_init_480 (by decide) ?_
  refine hj_bipush (101 : Int32) dX12_init_482 (by decide) ?_
  refine hj_bipush (100 : Int32) dX12_init_484 (by decide) ?_
  refine hj_iconst (0 : Int32) dX12_init_486 (by decide) ?_
  refine hj_iconst (0 : Int32) dX12_init_487 (by decide) ?_
  refine hj_callS (M' := mX12_word) (h' := 2) (As := [.int ((103 : Int32)), .int ((108 : Int32)), .int ((117 : Int32)), .int ((101 : Int32)), .int ((100 : Int32)), .int ((0 : Int32)), .int ((0 : Int32))]) mfX12_word msX12_word mlX12_149 dX12_init_488 (kX12_word G _ _ _ _ _ _ _ _) ⟨Nat.le_of_ble_eq_true rfl, Nat.le_of_ble_eq_true rfl⟩ ⟨Nat.le_of_ble_eq_true rfl, Nat.le_of_ble_eq_true rfl⟩ rfl (Nat.le_of_ble_eq_true rfl) (fun r155 σ154 _ => ?_)
  refine hj_last dX12_init_491 (fun σ156 _ => ?_)
  refine hj_aload_n 0 dX12_init_492 rfl ?_
  refine hj_getR flX12_34 dX12_init_493 (fun t157 _ => ?_)
  refine hj_bipush (6 : Int32) dX12_init_496 (by decide) ?_
  refine hj_bipush (102 : Int32) dX12_init_498 (by decide) ?_
  refine hj_bipush (108 : Int32) dX12_init_500 (by decide) ?_
  refine hj_bipush (121 : Int32) dX12_init_502 (by decide) ?_
  refine hj_iconst (0 : Int32) dX12_init_504 (by decide) ?_
  refine hj_iconst (0 : Int32) dX12_init_505 (by decide) ?_
  refine hj_iconst (0 : Int32) dX12_init_506 (by decide) ?_
  refine hj_iconst (0 : Int32) dX12_init_507 (by decide) ?_
  refine hj_callS (M' := mX12_word) (h' := 2) (As := [.int ((102 : Int32)), .int ((108 : Int32)), .int ((121 : Int32)), .int ((0 : Int32)), .int ((0 : Int32)), .int ((0 : Int32)), .int ((0 : Int32))]) mfX12_word msX12_word mlX12_149 dX12_init_508 (kX12_word G _ _ _ _ _ _ _ _) ⟨Nat.le_of_ble_eq_true rfl, Nat.le_of_ble_eq_true rfl⟩ ⟨Nat.le_of_ble_eq_true rfl, Nat.le_of_ble_eq_true rfl⟩ rfl (Nat.le_of_ble_eq_true rfl) (fun r159 σ158 _ => ?_)
  refine hj_last dX12_init_511 (fun σ160 _ => ?_)
  refine hj_aload_n 0 dX12_init_512 rfl ?_
  refine hj_getR flX12_34 dX12_init_513 (fun t161 _ => ?_)
  refine hj_bipush (7 : Int32) dX12_init_516 (by decide) ?_
  refine hj_bipush (111 : Int32) dX12_init_518 (by decide) ?_
  refine hj_bipush (110 : Int32) dX12_init_520 (by decide) ?_
  refine hj_iconst (0 : Int32) dX12_init_522 (by decide) ?_
  refine hj_iconst (0 : Int32) dX12_init_523 (by decide) ?_
  refine hj_iconst (0 : Int32) dX12_init_524 (by decide) ?_
  refine hj_iconst (0 : Int32) dX12_init_525 (by decide) ?_
  refine hj_iconst (0 : Int32) dX12_init_526 (by decide) ?_
  refine hj_callS (M' := mX12_word) (h' := 2) (As := [.int ((111 : Int32)), .int ((110 : Int32)), .int ((0 : Int32)), .int ((0 : Int32)), .int ((0 : Int32)), .int ((0 : Int32)), .int ((0 : Int32))]) mfX12_word msX12_word mlX12_149 dX12_init_527 (kX12_word G _ _ _ _ _ _ _ _) ⟨Nat.le_of_ble_eq_true rfl, Nat.le_of_ble_eq_true rfl⟩ ⟨Nat.le_of_ble_eq_true rfl, Nat.le_of_ble_eq_true rfl⟩ rfl (Nat.le_of_ble_eq_true rfl) (fun r163 σ162 _ => ?_)
  refine hj_last dX12_init_530 (fun σ164 _ => ?_)
  refine hj_aload_n 0 dX12_init_531 rfl ?_
  refine hj_getR flX12_34 dX12_init_532 (fun t165 _ => ?_)
  refine hj_bipush (8 : Int32) dX12_init_535 (by decide) ?_
  refine hj_bipush (105 : Int32) dX12_init_537 (by decide) ?_
  refine hj_bipush (102 : Int32) dX12_init_539 (by decide) ?_
  refine hj_iconst (0 : Int32) dX12_init_541 (by decide) ?_
  refine hj_iconst (0 : Int32) dX12_init_542 (by decide) ?_
  refine hj_iconst (0 : Int32) dX12_init_543 (by decide) ?_
  refine hj_iconst (0 : Int32) dX12_init_544 (by decide) ?_
  refine hj_iconst (0 : Int32) dX12_init_545 (by decide) ?_
  refine hj_callS (M' := mX12_word) (h' := 2) (As := [.int ((105 : Int32)), .int ((102 : Int32)), .int ((0 : Int32)), .int ((0 : Int32)), .int ((0 : Int32)), .int ((0 : Int32)), .int ((0 : Int32))]) mfX12_word msX12_word mlX12_149 dX12_init_546 (kX12_word G _ _ _ _ _ _ _ _) ⟨Nat.le_of_ble_eq_true rfl, Nat.le_of_ble_eq_true rfl⟩ ⟨Nat.le_of_ble_eq_true rfl, Nat.le_of_ble_eq_true rfl⟩ rfl (Nat.le_of_ble_eq_true rfl) (fun r167 σ166 _ => ?_)
  refine hj_last dX12_init_549 (fun σ168 _ => ?_)
  refine hj_aload_n 0 dX12_init_550 rfl ?_
  refine hj_getR flX12_34 dX12_init_551 (fun t169 _ => ?_)
  refine hj_bipush (9 : Int32) dX12_init_554 (by decide) ?_
  refine hj_bipush (116 : Int32) dX12_init_556 (by decide) ?_
  refine hj_bipush (104 : Int32) dX12_init_558 (by decide) ?_
  refine hj_bipush (101 : Int32) dX12_init_560 (by decide) ?_
  refine hj_bipush (110 : Int32) dX12_init_562 (by decide) ?_
  refine hj_iconst (0 : Int32) dX12_init_564 (by decide) ?_
  refine hj_iconst (0 : Int32) dX12_init_565 (by decide) ?_
  refine hj_iconst (0 : Int32) dX12_init_566 (by decide) ?_
  refine hj_callS (M' := mX12_word) (h' := 2) (As := [.int ((116 : Int32)), .int ((104 : Int32)), .int ((101 : Int32)), .int ((110 : Int32)), .int ((0 : Int32)), .int ((0 : Int32)), .int ((0 : Int32))]) mfX12_word msX12_word mlX12_149 dX12_init_567 (kX12_word G _ _ _ _ _ _ _ _) ⟨Nat.le_of_ble_eq_true rfl, Nat.le_of_ble_eq_true rfl⟩ ⟨Nat.le_of_ble_eq_true rfl, Nat.le_of_ble_eq_true rfl⟩ rfl (Nat.le_of_ble_eq_true rfl) (fun r171 σ170 _ => ?_)
  refine hj_last dX12_init_570 (fun σ172 _ => ?_)
  refine hj_aload_n 0 dX12_init_571 rfl ?_
  refine hj_getR flX12_34 dX12_init_572 (fun t173 _ => ?_)
  refine hj_bipush (10 : Int32) dX12_init_575 (by decide) ?_
  refine hj_bipush (101 : Int32) dX12_init_577 (by decide) ?_
  refine hj_bipush (108 : Int32) dX12_init_579 (by decide) ?_
  refine hj_bipush (115 : Int32) dX12_init_581 (by decide) ?_
  refine hj_bipush (101 : Int32) dX12_init_583 (by decide) ?_
  refine hj_iconst (0 : Int32) dX12_init_585 (by decide) ?_
  refine hj_iconst (0 : Int32) dX12_init_586 (by decide) ?_
  refine hj_iconst (0 : Int32) dX12_init_587 (by decide) ?_
  refine hj_callS (M' := mX12_word) (h' := 2) (As := [.int ((101 : Int32)), .int ((108 : Int32)), .int ((115 : Int32)), .int ((101 : Int32)), .int ((0 : Int32)), .int ((0 : Int32)), .int ((0 : Int32))]) mfX12_word msX12_word mlX12_149 dX12_init_588 (kX12_word G _ _ _ _ _ _ _ _) ⟨Nat.le_of_ble_eq_true rfl, Nat.le_of_ble_eq_true rfl⟩ ⟨Nat.le_of_ble_eq_true rfl, Nat.le_of_ble_eq_true rfl⟩ rfl (Nat.le_of_ble_eq_true rfl) (fun r175 σ174 _ => ?_)
  refine hj_last dX12_init_591 (fun σ176 _ => ?_)
  refine hj_aload_n 0 dX12_init_592 rfl ?_
  refine hj_getR flX12_34 dX12_init_593 (fun t177 _ => ?_)
  refine hj_bipush (11 : Int32) dX12_init_596 (by decide) ?_
  refine hj_bipush (108 : Int32) dX12_init_598 (by decide) ?_
  refine hj_bipush (111 : Int32) dX12_init_600 (by decide) ?_
  refine hj_bipush (110 : Int32) dX12_init_602 (by decide) ?_
  refine hj_bipush (103 : Int32) dX12_init_604 (by decide) ?_
  refine hj_iconst (0 : Int32) dX12_init_606 (by decide) ?_
  refine hj_iconst (0 : Int32) dX12_init_607 (by decide) ?_
  refine hj_iconst (0 : Int32) dX12_init_608 (by decide) ?_
  refine hj_callS (M' := mX12_word) (h' := 2) (As := [.int ((108 : Int32)), .int ((111 : Int32)), .int ((110 : Int32)), .int ((103 : Int32)), .int ((0 : Int32)), .int ((0 : Int32)), .int ((0 : Int32))]) mfX12_word msX12_word mlX12_149 dX12_init_609 (kX12_word G _ _ _ _ _ _ _ _) ⟨Nat.le_of_ble_eq_true rfl, Nat.le_of_ble_eq_true rfl⟩ ⟨Nat.le_of_ble_eq_true rfl, Nat.le_of_ble_eq_true rfl⟩ rfl (Nat.le_of_ble_eq_true rfl) (fun r179 σ178 _ => ?_)
  refine hj_last dX12_init_612 (fun σ180 _ => ?_)
  refine hj_aload_n 0 dX12_init_613 rfl ?_
  refine hj_getR flX12_34 dX12_init_614 (fun t181 _ => ?_)
  refine hj_bipush (12 : Int32) dX12_init_617 (by decide) ?_
  refine hj_bipush (116 : Int32) dX12_init_619 (by decide) ?_
  refine hj_bipush (111 : Int32) dX12_init_621 (by decide) ?_
  refine hj_bipush (108 : Int32) dX12_init_623 (by decide) ?_
  refine hj_bipush (100 : Int32) dX12_init_625 (by decide) ?_
  refine hj_iconst (0 : Int32) dX12_init_627 (by decide) ?_
  refine hj_iconst (0 : Int32) dX12_init_628 (by decide) ?_
  refine hj_iconst (0 : Int32) dX12_init_629 (by decide) ?_
  refine hj_callS (M' := mX12_word) (h' := 2) (As := [.int ((116 : Int32)), .int ((111 : Int32)), .int ((108 : Int32)), .int ((100 : Int32)), .int ((0 : Int32)), .int ((0 : Int32)), .int ((0 : Int32))]) mfX12_word msX12_word mlX12_149 dX12_init_630 (kX12_word G _ _ _ _ _ _ _ _) ⟨Nat.le_of_ble_eq_true rfl, Nat.le_of_ble_eq_true rfl⟩ ⟨Nat.le_of_ble_eq_true rfl, Nat.le_of_ble_eq_true rfl⟩ rfl (Nat.le_of_ble_eq_true rfl) (fun r183 σ182 _ => ?_)
  refine hj_last dX12_init_633 (fun σ184 _ => ?_)
  refine hj_aload_n 0 dX12_init_634 rfl ?_
  refine hj_getR flX12_34 dX12_init_635 (fun t185 _ => ?_)
  refine hj_bipush (13 : Int32) dX12_init_638 (by decide) ?_
  refine hj_bipush (108 : Int32) dX12_init_640 (by decide) ?_
  refine hj_bipush (101 : Int32) dX12_init_642 (by decide) ?_
  refine hj_bipush (118 : Int32) dX12_init_644 (by decide) ?_
  refine hj_bipush (101 : Int32) dX12_init_646 (by decide) ?_
  refine hj_bipush (108 : Int32) dX12_init_648 (by decide) ?_
  refine hj_iconst (0 : Int32) dX12_init_650 (by decide) ?_
  refine hj_iconst (0 : Int32) dX12_init_651 (by decide) ?_
  refine hj_callS (M' := mX12_word) (h' := 2) (As := [.int ((108 : Int32)), .int ((101 : Int32)), .int ((118 : Int32)), .int ((101 : Int32)), .int ((108 : Int32)), .int ((0 : Int32)), .int ((0 : Int32))]) mfX12_word msX12_word mlX12_149 dX12_init_652 (kX12_word G _ _ _ _ _ _ _ _) ⟨Nat.le_of_ble_eq_true rfl, Nat.le_of_ble_eq_true rfl⟩ ⟨Nat.le_of_ble_eq_true rfl, Nat.le_of_ble_eq_true rfl⟩ rfl (Nat.le_of_ble_eq_true rfl) (fun r187 σ186 _ => ?_)
  refine hj_last dX12_init_655 (fun σ188 _ => ?_)
  refine hj_aload_n 0 dX12_init_656 rfl ?_
  refine hj_getR flX12_34 dX12_init_657 (fun t189 _ => ?_)
  refine hj_bipush (14 : Int32) dX12_init_660 (by decide) ?_
  refine hj_bipush (112 : Int32) dX12_init_662 (by decide) ?_
  refine hj_bipush (108 : Int32) dX12_init_664 (by decide) ?_
  refine hj_bipush (97 : Int32) dX12_init_666 (by decide) ?_
  refine hj_bipush (99 : Int32) dX12_init_668 (by decide) ?_
  refine hj_bipush (101 : Int32) dX12_init_670 (by decide) ?_
  refine hj_iconst (0 : Int32) dX12_init_672 (by decide) ?_
  refine hj_iconst (0 : Int32) dX12_init_673 (by decide) ?_
  refine hj_callS (M' := mX12_word) (h' := 2) (As := [.int ((112 : Int32)), .int ((108 : Int32)), .int ((97 : Int32)), .int ((99 : Int32)), .int ((101 : Int32)), .int ((0 : Int32)), .int ((0 : Int32))]) mfX12_word msX12_word mlX12_149 dX12_init_674 (kX12_word G _ _ _ _ _ _ _ _) ⟨Nat.le_of_ble_eq_true rfl, Nat.le_of_ble_eq_true rfl⟩ ⟨Nat.le_of_ble_eq_true rfl, Nat.le_of_ble_eq_true rfl⟩ rfl (Nat.le_of_ble_eq_true rfl) (fun r191 σ190 _ => ?_)
  refine hj_last dX12_init_677 (fun σ192 _ => ?_)
  refine hj_aload_n 0 dX12_init_678 rfl ?_
  refine hj_getR flX12_34 dX12_init_679 (fun t193 _ => ?_)
  refine hj_bipush (15 : Int32) dX12_init_682 (by decide) ?_
  refine hj_bipush (97 : Int32) dX12_init_684 (by decide) ?_
  refine hj_bipush (98 : Int32) dX12_init_686 (by decide) ?_
  refine hj_bipush (111 : Int32) dX12_init_688 (by decide) ?_
  refine hj_bipush (118 : Int32) dX12_init_690 (by decide) ?_
  refine hj_bipush (101 : Int32) dX12_init_692 (by decide) ?_
  refine hj_iconst (0 : Int32) dX12_init_694 (by decide) ?_
  refine hj_iconst (0 : Int32) dX12_init_695 (by decide) ?_
  refine hj_callS (M' := mX12_word) (h' := 2) (As := [.int ((97 : Int32)), .int ((98 : Int32)), .int ((111 : Int32)), .int ((118 : Int32)), .int ((101 : Int32)), .int ((0 : Int32)), .int ((0 : Int32))]) mfX12_word msX12_word mlX12_149 dX12_init_696 (kX12_word G _ _ _ _ _ _ _ _) ⟨Nat.le_of_ble_eq_true rfl, Nat.le_of_ble_eq_true rfl⟩ ⟨Nat.le_of_ble_eq_true rfl, Nat.le_of_ble_eq_true rfl⟩ rfl (Nat.le_of_ble_eq_true rfl) (fun r195 σ194 _ => ?_)
  refine hj_last dX12_init_699 (fun σ196 _ => ?_)
  exact hj_vret dX12_init_700 rfl rfl (Nat.le_of_ble_eq_true rfl)
