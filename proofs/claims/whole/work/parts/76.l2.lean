/-! The law: cases that change the land. -/
section PL2
theorem MI_N {S : List Nat} {I J : IM} {N N' M So Si Pl Th He Wt T : Row} {w z : Nat} {kept : Bool} (h : MI I N M So Si Pl Th He Wt T w z kept) (hf : eqx S I J) (hS : ∀ i, i ∈ [101, 103, 108, 114, 115, 116, 118, 119, 120] → i ∉ S) (e : J 102 = N') : MI J N' M So Si Pl Th He Wt T w z kept := by
  unfold MI at *
  rw [hf 101 (hS _ (by decide)), hf 103 (hS _ (by decide)), hf 108 (hS _ (by decide)), hf 114 (hS _ (by decide)), hf 115 (hS _ (by decide)), hf 116 (hS _ (by decide)), hf 118 (hS _ (by decide)), hf 119 (hS _ (by decide)), hf 120 (hS _ (by decide))]
  exact ⟨e, h.2⟩
theorem rg14 {n : Nat} {b : Int32} (h : rg n b) (hn : n ≤ 14) : b.toNatClampNeg < 14 := by
  obtain ⟨j, hj, rfl⟩ := rg_of h (by omega)
  rw [nI_clamp (by omega)]
  omega
theorem turnsN_hi {N : Row} {n k : Nat} {b q : Int32} (hn : n ≤ 14) (hk : 1556 ≤ k) : turnsN N n b q k = N k := by
  unfold turnsN
  split
  · rename_i h
    have := rg14 h.1 hn
    rw [va_up_ne _ _ (by omega)]
  · rfl
theorem setN_hi {N : Row} {n k : Nat} {b w v : Int32} (hn : n ≤ 14) (hk : 1556 ≤ k) : setN N n b w v k = N k := by
  unfold setN
  split
  · rename_i h
    have h1 := rg14 h.1 hn
    have h2 : w.toNatClampNeg < 6 := by
      obtain ⟨rfl, _⟩ | ⟨rfl, _⟩ | ⟨rfl, _⟩ := h.2 <;> decide
    rw [va_up_ne _ _ (by omega)]
  · rfl
theorem ruleN_hi {N : Row} {k : Nat} {w v : Int32} (hk : 1556 ≤ k) : ruleN N w v k = N k := by
  unfold ruleN
  split
  · rename_i h
    have h2 : w.toNatClampNeg < 6 := by
      obtain ⟨rfl, _⟩ | ⟨rfl, _⟩ := h <;> decide
    rw [va_up_ne _ _ (by omega)]
  · rfl
theorem hsN_hi {N : Row} {n k : Nat} (hn : n ≤ 14) (hk : 1556 ≤ k) : hsN N n k = N k := hsN_ne n (fun j hj => by omega)
end PL2
section L2
variable {g G : Geo} {I : IM} {K : Option Value → Geo → IM → Prop} {c i : Nat}
theorem cs_turns (hI : Inv c G g I) (hi : i + 6 ≤ G.1.2.1) (hl : G.1.2.1 ≤ 384) (kk : ∀ g' J, Inv (c + 1) G g' J → Rl 153 M_L_law 1495 (LL i) [] g' J K) : Rl 153 M_L_law 331 (LL i) [] g I K := by
  obtain ⟨N, M, So, Si, Pl, Th, He, Wt, T, n, tn, n2, tn2, w, z, kept, hH, hC, hM, hO⟩ := hI
  have G0 := hH.1
  have hg := hH.2.1
  obtain ⟨ok, okw, okk, oks, okh, okt, hw60, h1556⟩ := id hO
  have n14 : n ≤ 14 := ok.2.1
  have m14 : kept = true → n2 ≤ 14 := fun k => (okk k).1.2.1
  have a0 : isAg g 0 9 11 := ga G0 (by decide) rfl
  have a1 : isAg g 101 10 31 := ga G0 (by decide) rfl
  obtain ⟨c1, c2, c3, c4, c5, c6, c7⟩ := id hC
  unfold LL
  repeat' (first
    | ((first | refine T_aload_n (pc1 := 332) (pc := 331) k_L_law_331 rfl rfl ?_ | refine T_aload_nN (pc1 := 332) (pc := 331) k_L_law_331 rfl rfl ?_) <;> try ((first | refine T_aload_n (pc1 := 333) (pc := 332) k_L_law_332 rfl rfl ?_ | refine T_aload_nN (pc1 := 333) (pc := 332) k_L_law_332 rfl rfl ?_) <;> try (refine T_iload_n (pc1 := 334) (pc := 333) k_L_law_333 rfl rfl ?_ <;> try (refine T_iconst (v := (nI 1)) (pc1 := 335) (pc := 334) k_L_law_334 rfl (by decide) ?_ <;> try ((first | with_reducible refine T_iaddN (pc1 := 336) (pc := 335) k_L_law_335 (by decide) ?_ | refine T_iadd (pc1 := 336) (pc := 335) k_L_law_335 rfl ?_) <;> try (refine T_scN (pc1 := 337) (pc := 336) k_L_law_336 rfl (by assumption) (by omega) (by omega) ?_ <;> try ((first | refine T_aload_n (pc1 := 338) (pc := 337) k_L_law_337 rfl rfl ?_ | refine T_aload_nN (pc1 := 338) (pc := 337) k_L_law_337 rfl rfl ?_) <;> try (refine T_iload_n (pc1 := 339) (pc := 338) k_L_law_338 rfl rfl ?_ <;> try (refine T_iconst (v := (nI 2)) (pc1 := 340) (pc := 339) k_L_law_339 rfl (by decide) ?_ <;> try ((first | with_reducible refine T_iaddN (pc1 := 341) (pc := 340) k_L_law_340 (by decide) ?_ | refine T_iadd (pc1 := 341) (pc := 340) k_L_law_340 rfl ?_) <;> try (refine T_scN (pc1 := 342) (pc := 341) k_L_law_341 rfl (by assumption) (by omega) (by omega) ?_)))))))))))
    | refine T_aload_n (pc1 := 333) (pc := 332) k_L_law_332 rfl rfl ?_
    | refine T_aload_nN (pc1 := 333) (pc := 332) k_L_law_332 rfl rfl ?_
    | refine T_iload_n (pc1 := 334) (pc := 333) k_L_law_333 rfl rfl ?_
    | refine T_iconst (v := (nI 1)) (pc1 := 335) (pc := 334) k_L_law_334 rfl (by decide) ?_
    | with_reducible refine T_iaddN (pc1 := 336) (pc := 335) k_L_law_335 (by decide) ?_
    | refine T_iadd (pc1 := 336) (pc := 335) k_L_law_335 rfl ?_
    | refine T_scN (pc1 := 337) (pc := 336) k_L_law_336 rfl (by assumption) (by omega) (by omega) ?_
    | refine T_aload_n (pc1 := 338) (pc := 337) k_L_law_337 rfl rfl ?_
    | refine T_aload_nN (pc1 := 338) (pc := 337) k_L_law_337 rfl rfl ?_
    | refine T_iload_n (pc1 := 339) (pc := 338) k_L_law_338 rfl rfl ?_
    | refine T_iconst (v := (nI 2)) (pc1 := 340) (pc := 339) k_L_law_339 rfl (by decide) ?_
    | with_reducible refine T_iaddN (pc1 := 341) (pc := 340) k_L_law_340 (by decide) ?_
    | refine T_iadd (pc1 := 341) (pc := 340) k_L_law_340 rfl ?_
    | refine T_scN (pc1 := 342) (pc := 341) k_L_law_341 rfl (by assumption) (by omega) (by omega) ?_)
  (refine T_cV (As := [_, _]) (d1 := 3) (pc1 := 345) (pc := 342) k_L_law_342 rfl (by decide) (Nat.le_of_ble_eq_true rfl) rfl o_S_turns l_L_27 rfl (by assumption) rfl (c_S_turns G0 ok okw c1 fun J1 r1 f1 ok1 okw1 L1 e1 => ?_) <;> try dsimp only [psh])
  have C1 := CI_fr (r := 43) hC m14 GS_rf (by omega) (by omega) f1 (fun i hi => Or.inl hi) L1
  have M1 := MI_fr hM f1 (fun i h1 h2 h3 => tf_mod h1 h2 (Or.inl h3))
  obtain ⟨x102, x103, xk, xSo, xSi, xPl, xTh, xHe, xWt, xw, xT, xz⟩ := id M1
  repeat' (first
    | ((first | refine T_aload_n (pc1 := 346) (pc := 345) k_L_law_345 rfl rfl ?_ | refine T_aload_nN (pc1 := 346) (pc := 345) k_L_law_345 rfl rfl ?_) <;> try ((first | refine T_aload_n (pc1 := 347) (pc := 346) k_L_law_346 rfl rfl ?_ | refine T_aload_nN (pc1 := 347) (pc := 346) k_L_law_346 rfl rfl ?_) <;> try (refine T_iload_n (pc1 := 348) (pc := 347) k_L_law_347 rfl rfl ?_ <;> try (refine T_iconst (v := (nI 1)) (pc1 := 349) (pc := 348) k_L_law_348 rfl (by decide) ?_ <;> try ((first | with_reducible refine T_iaddN (pc1 := 350) (pc := 349) k_L_law_349 (by decide) ?_ | refine T_iadd (pc1 := 350) (pc := 349) k_L_law_349 rfl ?_) <;> try (refine T_scN (pc1 := 351) (pc := 350) k_L_law_350 rfl (by assumption) (by omega) (by omega) ?_ <;> try ((first | refine T_aload_n (pc1 := 352) (pc := 351) k_L_law_351 rfl rfl ?_ | refine T_aload_nN (pc1 := 352) (pc := 351) k_L_law_351 rfl rfl ?_) <;> try (refine T_iload_n (pc1 := 353) (pc := 352) k_L_law_352 rfl rfl ?_ <;> try (refine T_iconst (v := (nI 2)) (pc1 := 354) (pc := 353) k_L_law_353 rfl (by decide) ?_ <;> try ((first | with_reducible refine T_iaddN (pc1 := 355) (pc := 354) k_L_law_354 (by decide) ?_ | refine T_iadd (pc1 := 355) (pc := 354) k_L_law_354 rfl ?_) <;> try (refine T_scN (pc1 := 356) (pc := 355) k_L_law_355 rfl (by assumption) (by omega) (by omega) ?_)))))))))))
    | refine T_aload_n (pc1 := 347) (pc := 346) k_L_law_346 rfl rfl ?_
    | refine T_aload_nN (pc1 := 347) (pc := 346) k_L_law_346 rfl rfl ?_
    | refine T_iload_n (pc1 := 348) (pc := 347) k_L_law_347 rfl rfl ?_
    | refine T_iconst (v := (nI 1)) (pc1 := 349) (pc := 348) k_L_law_348 rfl (by decide) ?_
    | with_reducible refine T_iaddN (pc1 := 350) (pc := 349) k_L_law_349 (by decide) ?_
    | refine T_iadd (pc1 := 350) (pc := 349) k_L_law_349 rfl ?_
    | refine T_scN (pc1 := 351) (pc := 350) k_L_law_350 rfl (by assumption) (by omega) (by omega) ?_
    | refine T_aload_n (pc1 := 352) (pc := 351) k_L_law_351 rfl rfl ?_
    | refine T_aload_nN (pc1 := 352) (pc := 351) k_L_law_351 rfl rfl ?_
    | refine T_iload_n (pc1 := 353) (pc := 352) k_L_law_352 rfl rfl ?_
    | refine T_iconst (v := (nI 2)) (pc1 := 354) (pc := 353) k_L_law_353 rfl (by decide) ?_
    | with_reducible refine T_iaddN (pc1 := 355) (pc := 354) k_L_law_354 (by decide) ?_
    | refine T_iadd (pc1 := 355) (pc := 354) k_L_law_354 rfl ?_
    | refine T_scN (pc1 := 356) (pc := 355) k_L_law_355 rfl (by assumption) (by omega) (by omega) ?_)
  (refine T_cV (As := [_, _]) (d1 := 3) (pc1 := 359) (pc := 356) k_L_law_356 rfl (by decide) (Nat.le_of_ble_eq_true rfl) rfl o_M_turns l_L_30 rfl (by assumption) rfl (c_M_turns G0 x102 ok fun J2 r2 f2 q2 e2 => ?_) <;> try dsimp only [psh])
  refine T_icmp_eq_t k_L_law_359 rfl (e1.trans e2.symm) ?_
  exact kk g J2 ⟨_, M, So, Si, Pl, Th, He, Wt, T, n, tn, n2, tn2, w, z, kept, HI_s hH, CI_mo C1 n14 m14 (eqx_fre f2 (by decide)), MI_N M1 f2 (by decide) q2, ⟨ok1, okw1, okk, oks, okh, okt, hw60, fun k hk => (turnsN_hi n14 hk).trans (h1556 k hk)⟩⟩
theorem cs_set (hI : Inv c G g I) (hi : i + 6 ≤ G.1.2.1) (hl : G.1.2.1 ≤ 384) (kk : ∀ g' J, Inv (c + 1) G g' J → Rl 153 M_L_law 1495 (LL i) [] g' J K) : Rl 153 M_L_law 364 (LL i) [] g I K := by
  obtain ⟨N, M, So, Si, Pl, Th, He, Wt, T, n, tn, n2, tn2, w, z, kept, hH, hC, hM, hO⟩ := hI
  have G0 := hH.1
  have hg := hH.2.1
  obtain ⟨ok, okw, okk, oks, okh, okt, hw60, h1556⟩ := id hO
  have n14 : n ≤ 14 := ok.2.1
  have m14 : kept = true → n2 ≤ 14 := fun k => (okk k).1.2.1
  have a0 : isAg g 0 9 11 := ga G0 (by decide) rfl
  have a1 : isAg g 101 10 31 := ga G0 (by decide) rfl
  obtain ⟨c1, c2, c3, c4, c5, c6, c7⟩ := id hC
  unfold LL
  repeat' (first
    | ((first | refine T_aload_n (pc1 := 365) (pc := 364) k_L_law_364 rfl rfl ?_ | refine T_aload_nN (pc1 := 365) (pc := 364) k_L_law_364 rfl rfl ?_) <;> try ((first | refine T_aload_n (pc1 := 366) (pc := 365) k_L_law_365 rfl rfl ?_ | refine T_aload_nN (pc1 := 366) (pc := 365) k_L_law_365 rfl rfl ?_) <;> try (refine T_iload_n (pc1 := 367) (pc := 366) k_L_law_366 rfl rfl ?_ <;> try (refine T_iconst (v := (nI 1)) (pc1 := 368) (pc := 367) k_L_law_367 rfl (by decide) ?_ <;> try ((first | with_reducible refine T_iaddN (pc1 := 369) (pc := 368) k_L_law_368 (by decide) ?_ | refine T_iadd (pc1 := 369) (pc := 368) k_L_law_368 rfl ?_) <;> try (refine T_scN (pc1 := 370) (pc := 369) k_L_law_369 rfl (by assumption) (by omega) (by omega) ?_ <;> try ((first | refine T_aload_n (pc1 := 371) (pc := 370) k_L_law_370 rfl rfl ?_ | refine T_aload_nN (pc1 := 371) (pc := 370) k_L_law_370 rfl rfl ?_) <;> try (refine T_iload_n (pc1 := 372) (pc := 371) k_L_law_371 rfl rfl ?_ <;> try (refine T_iconst (v := (nI 2)) (pc1 := 373) (pc := 372) k_L_law_372 rfl (by decide) ?_ <;> try ((first | with_reducible refine T_iaddN (pc1 := 374) (pc := 373) k_L_law_373 (by decide) ?_ | refine T_iadd (pc1 := 374) (pc := 373) k_L_law_373 rfl ?_) <;> try (refine T_scN (pc1 := 375) (pc := 374) k_L_law_374 rfl (by assumption) (by omega) (by omega) ?_ <;> try ((first | refine T_aload_n (pc1 := 376) (pc := 375) k_L_law_375 rfl rfl ?_ | refine T_aload_nN (pc1 := 376) (pc := 375) k_L_law_375 rfl rfl ?_) <;> try (refine T_iload_n (pc1 := 377) (pc := 376) k_L_law_376 rfl rfl ?_ <;> try (refine T_iconst (v := (nI 3)) (pc1 := 378) (pc := 377) k_L_law_377 rfl (by decide) ?_))))))))))))))
    | ((first | with_reducible refine T_iaddN (pc1 := 379) (pc := 378) k_L_law_378 (by decide) ?_ | refine T_iadd (pc1 := 379) (pc := 378) k_L_law_378 rfl ?_) <;> try (refine T_scN (pc1 := 380) (pc := 379) k_L_law_379 rfl (by assumption) (by omega) (by omega) ?_))
    | refine T_aload_n (pc1 := 366) (pc := 365) k_L_law_365 rfl rfl ?_
    | refine T_aload_nN (pc1 := 366) (pc := 365) k_L_law_365 rfl rfl ?_
    | refine T_iload_n (pc1 := 367) (pc := 366) k_L_law_366 rfl rfl ?_
    | refine T_iconst (v := (nI 1)) (pc1 := 368) (pc := 367) k_L_law_367 rfl (by decide) ?_
    | with_reducible refine T_iaddN (pc1 := 369) (pc := 368) k_L_law_368 (by decide) ?_
    | refine T_iadd (pc1 := 369) (pc := 368) k_L_law_368 rfl ?_
    | refine T_scN (pc1 := 370) (pc := 369) k_L_law_369 rfl (by assumption) (by omega) (by omega) ?_
    | refine T_aload_n (pc1 := 371) (pc := 370) k_L_law_370 rfl rfl ?_
    | refine T_aload_nN (pc1 := 371) (pc := 370) k_L_law_370 rfl rfl ?_
    | refine T_iload_n (pc1 := 372) (pc := 371) k_L_law_371 rfl rfl ?_
    | refine T_iconst (v := (nI 2)) (pc1 := 373) (pc := 372) k_L_law_372 rfl (by decide) ?_
    | with_reducible refine T_iaddN (pc1 := 374) (pc := 373) k_L_law_373 (by decide) ?_
    | refine T_iadd (pc1 := 374) (pc := 373) k_L_law_373 rfl ?_
    | refine T_scN (pc1 := 375) (pc := 374) k_L_law_374 rfl (by assumption) (by omega) (by omega) ?_
    | refine T_aload_n (pc1 := 376) (pc := 375) k_L_law_375 rfl rfl ?_
    | refine T_aload_nN (pc1 := 376) (pc := 375) k_L_law_375 rfl rfl ?_
    | refine T_iload_n (pc1 := 377) (pc := 376) k_L_law_376 rfl rfl ?_
    | refine T_iconst (v := (nI 3)) (pc1 := 378) (pc := 377) k_L_law_377 rfl (by decide) ?_
    | refine T_scN (pc1 := 380) (pc := 379) k_L_law_379 rfl (by assumption) (by omega) (by omega) ?_)
  (refine T_cV (As := [_, _, _]) (d1 := 3) (pc1 := 383) (pc := 380) k_L_law_380 rfl (by decide) (Nat.le_of_ble_eq_true rfl) rfl o_S_set l_L_31 rfl (by assumption) rfl (c_S_set G0 ok okw c1 fun J1 r1 f1 ok1 okw1 L1 e1 => ?_) <;> try dsimp only [psh])
  have C1 := CI_fr (r := 43) hC m14 GS_rf (by omega) (by omega) f1 (fun i hi => Or.inl hi) L1
  have M1 := MI_fr hM f1 (fun i h1 h2 h3 => tf_mod h1 h2 (Or.inl h3))
  obtain ⟨x102, x103, xk, xSo, xSi, xPl, xTh, xHe, xWt, xw, xT, xz⟩ := id M1
  repeat' (first
    | ((first | refine T_aload_n (pc1 := 384) (pc := 383) k_L_law_383 rfl rfl ?_ | refine T_aload_nN (pc1 := 384) (pc := 383) k_L_law_383 rfl rfl ?_) <;> try ((first | refine T_aload_n (pc1 := 385) (pc := 384) k_L_law_384 rfl rfl ?_ | refine T_aload_nN (pc1 := 385) (pc := 384) k_L_law_384 rfl rfl ?_) <;> try (refine T_iload_n (pc1 := 386) (pc := 385) k_L_law_385 rfl rfl ?_ <;> try (refine T_iconst (v := (nI 1)) (pc1 := 387) (pc := 386) k_L_law_386 rfl (by decide) ?_ <;> try ((first | with_reducible refine T_iaddN (pc1 := 388) (pc := 387) k_L_law_387 (by decide) ?_ | refine T_iadd (pc1 := 388) (pc := 387) k_L_law_387 rfl ?_) <;> try (refine T_scN (pc1 := 389) (pc := 388) k_L_law_388 rfl (by assumption) (by omega) (by omega) ?_ <;> try ((first | refine T_aload_n (pc1 := 390) (pc := 389) k_L_law_389 rfl rfl ?_ | refine T_aload_nN (pc1 := 390) (pc := 389) k_L_law_389 rfl rfl ?_) <;> try (refine T_iload_n (pc1 := 391) (pc := 390) k_L_law_390 rfl rfl ?_ <;> try (refine T_iconst (v := (nI 2)) (pc1 := 392) (pc := 391) k_L_law_391 rfl (by decide) ?_ <;> try ((first | with_reducible refine T_iaddN (pc1 := 393) (pc := 392) k_L_law_392 (by decide) ?_ | refine T_iadd (pc1 := 393) (pc := 392) k_L_law_392 rfl ?_) <;> try (refine T_scN (pc1 := 394) (pc := 393) k_L_law_393 rfl (by assumption) (by omega) (by omega) ?_ <;> try ((first | refine T_aload_n (pc1 := 395) (pc := 394) k_L_law_394 rfl rfl ?_ | refine T_aload_nN (pc1 := 395) (pc := 394) k_L_law_394 rfl rfl ?_) <;> try (refine T_iload_n (pc1 := 396) (pc := 395) k_L_law_395 rfl rfl ?_ <;> try (refine T_iconst (v := (nI 3)) (pc1 := 397) (pc := 396) k_L_law_396 rfl (by decide) ?_))))))))))))))
    | ((first | with_reducible refine T_iaddN (pc1 := 398) (pc := 397) k_L_law_397 (by decide) ?_ | refine T_iadd (pc1 := 398) (pc := 397) k_L_law_397 rfl ?_) <;> try (refine T_scN (pc1 := 399) (pc := 398) k_L_law_398 rfl (by assumption) (by omega) (by omega) ?_))
    | refine T_aload_n (pc1 := 385) (pc := 384) k_L_law_384 rfl rfl ?_
    | refine T_aload_nN (pc1 := 385) (pc := 384) k_L_law_384 rfl rfl ?_
    | refine T_iload_n (pc1 := 386) (pc := 385) k_L_law_385 rfl rfl ?_
    | refine T_iconst (v := (nI 1)) (pc1 := 387) (pc := 386) k_L_law_386 rfl (by decide) ?_
    | with_reducible refine T_iaddN (pc1 := 388) (pc := 387) k_L_law_387 (by decide) ?_
    | refine T_iadd (pc1 := 388) (pc := 387) k_L_law_387 rfl ?_
    | refine T_scN (pc1 := 389) (pc := 388) k_L_law_388 rfl (by assumption) (by omega) (by omega) ?_
    | refine T_aload_n (pc1 := 390) (pc := 389) k_L_law_389 rfl rfl ?_
    | refine T_aload_nN (pc1 := 390) (pc := 389) k_L_law_389 rfl rfl ?_
    | refine T_iload_n (pc1 := 391) (pc := 390) k_L_law_390 rfl rfl ?_
    | refine T_iconst (v := (nI 2)) (pc1 := 392) (pc := 391) k_L_law_391 rfl (by decide) ?_
    | with_reducible refine T_iaddN (pc1 := 393) (pc := 392) k_L_law_392 (by decide) ?_
    | refine T_iadd (pc1 := 393) (pc := 392) k_L_law_392 rfl ?_
    | refine T_scN (pc1 := 394) (pc := 393) k_L_law_393 rfl (by assumption) (by omega) (by omega) ?_
    | refine T_aload_n (pc1 := 395) (pc := 394) k_L_law_394 rfl rfl ?_
    | refine T_aload_nN (pc1 := 395) (pc := 394) k_L_law_394 rfl rfl ?_
    | refine T_iload_n (pc1 := 396) (pc := 395) k_L_law_395 rfl rfl ?_
    | refine T_iconst (v := (nI 3)) (pc1 := 397) (pc := 396) k_L_law_396 rfl (by decide) ?_
    | refine T_scN (pc1 := 399) (pc := 398) k_L_law_398 rfl (by assumption) (by omega) (by omega) ?_)
  (refine T_cV (As := [_, _, _]) (d1 := 3) (pc1 := 402) (pc := 399) k_L_law_399 rfl (by decide) (Nat.le_of_ble_eq_true rfl) rfl o_M_set l_L_35 rfl (by assumption) rfl (c_M_set G0 x102 ok fun J2 r2 f2 q2 e2 => ?_) <;> try dsimp only [psh])
  refine T_icmp_eq_t k_L_law_402 rfl (e1.trans e2.symm) ?_
  exact kk g J2 ⟨_, M, So, Si, Pl, Th, He, Wt, T, n, tn, n2, tn2, w, z, kept, HI_s hH, CI_mo C1 n14 m14 (eqx_fre f2 (by decide)), MI_N M1 f2 (by decide) q2, ⟨ok1, okw1, okk, oks, okh, okt, hw60, fun k hk => (setN_hi n14 hk).trans (h1556 k hk)⟩⟩
theorem cs_rule (hI : Inv c G g I) (hi : i + 6 ≤ G.1.2.1) (hl : G.1.2.1 ≤ 384) (kk : ∀ g' J, Inv (c + 1) G g' J → Rl 153 M_L_law 1495 (LL i) [] g' J K) : Rl 153 M_L_law 407 (LL i) [] g I K := by
  obtain ⟨N, M, So, Si, Pl, Th, He, Wt, T, n, tn, n2, tn2, w, z, kept, hH, hC, hM, hO⟩ := hI
  have G0 := hH.1
  have hg := hH.2.1
  obtain ⟨ok, okw, okk, oks, okh, okt, hw60, h1556⟩ := id hO
  have n14 : n ≤ 14 := ok.2.1
  have m14 : kept = true → n2 ≤ 14 := fun k => (okk k).1.2.1
  have a0 : isAg g 0 9 11 := ga G0 (by decide) rfl
  have a1 : isAg g 101 10 31 := ga G0 (by decide) rfl
  obtain ⟨c1, c2, c3, c4, c5, c6, c7⟩ := id hC
  unfold LL
  repeat' (first
    | ((first | refine T_aload_n (pc1 := 408) (pc := 407) k_L_law_407 rfl rfl ?_ | refine T_aload_nN (pc1 := 408) (pc := 407) k_L_law_407 rfl rfl ?_) <;> try ((first | refine T_aload_n (pc1 := 409) (pc := 408) k_L_law_408 rfl rfl ?_ | refine T_aload_nN (pc1 := 409) (pc := 408) k_L_law_408 rfl rfl ?_) <;> try (refine T_iload_n (pc1 := 410) (pc := 409) k_L_law_409 rfl rfl ?_ <;> try (refine T_iconst (v := (nI 1)) (pc1 := 411) (pc := 410) k_L_law_410 rfl (by decide) ?_ <;> try ((first | with_reducible refine T_iaddN (pc1 := 412) (pc := 411) k_L_law_411 (by decide) ?_ | refine T_iadd (pc1 := 412) (pc := 411) k_L_law_411 rfl ?_) <;> try (refine T_scN (pc1 := 413) (pc := 412) k_L_law_412 rfl (by assumption) (by omega) (by omega) ?_ <;> try ((first | refine T_aload_n (pc1 := 414) (pc := 413) k_L_law_413 rfl rfl ?_ | refine T_aload_nN (pc1 := 414) (pc := 413) k_L_law_413 rfl rfl ?_) <;> try (refine T_iload_n (pc1 := 415) (pc := 414) k_L_law_414 rfl rfl ?_ <;> try (refine T_iconst (v := (nI 2)) (pc1 := 416) (pc := 415) k_L_law_415 rfl (by decide) ?_ <;> try ((first | with_reducible refine T_iaddN (pc1 := 417) (pc := 416) k_L_law_416 (by decide) ?_ | refine T_iadd (pc1 := 417) (pc := 416) k_L_law_416 rfl ?_) <;> try (refine T_scN (pc1 := 418) (pc := 417) k_L_law_417 rfl (by assumption) (by omega) (by omega) ?_)))))))))))
    | refine T_aload_n (pc1 := 409) (pc := 408) k_L_law_408 rfl rfl ?_
    | refine T_aload_nN (pc1 := 409) (pc := 408) k_L_law_408 rfl rfl ?_
    | refine T_iload_n (pc1 := 410) (pc := 409) k_L_law_409 rfl rfl ?_
    | refine T_iconst (v := (nI 1)) (pc1 := 411) (pc := 410) k_L_law_410 rfl (by decide) ?_
    | with_reducible refine T_iaddN (pc1 := 412) (pc := 411) k_L_law_411 (by decide) ?_
    | refine T_iadd (pc1 := 412) (pc := 411) k_L_law_411 rfl ?_
    | refine T_scN (pc1 := 413) (pc := 412) k_L_law_412 rfl (by assumption) (by omega) (by omega) ?_
    | refine T_aload_n (pc1 := 414) (pc := 413) k_L_law_413 rfl rfl ?_
    | refine T_aload_nN (pc1 := 414) (pc := 413) k_L_law_413 rfl rfl ?_
    | refine T_iload_n (pc1 := 415) (pc := 414) k_L_law_414 rfl rfl ?_
    | refine T_iconst (v := (nI 2)) (pc1 := 416) (pc := 415) k_L_law_415 rfl (by decide) ?_
    | with_reducible refine T_iaddN (pc1 := 417) (pc := 416) k_L_law_416 (by decide) ?_
    | refine T_iadd (pc1 := 417) (pc := 416) k_L_law_416 rfl ?_
    | refine T_scN (pc1 := 418) (pc := 417) k_L_law_417 rfl (by assumption) (by omega) (by omega) ?_)
  (refine T_cV (As := [_, _]) (d1 := 2) (pc1 := 421) (pc := 418) k_L_law_418 rfl (by decide) (Nat.le_of_ble_eq_true rfl) rfl o_S_rule l_L_36 rfl (by assumption) rfl (c_S_rule G0 ok okw c1 fun J1 r1 f1 ok1 okw1 L1 e1 => ?_) <;> try dsimp only [psh])
  have C1 := CI_fr (r := 43) hC m14 GS_rf (by omega) (by omega) f1 (fun i hi => Or.inl hi) L1
  have M1 := MI_fr hM f1 (fun i h1 h2 h3 => tf_mod h1 h2 (Or.inl h3))
  obtain ⟨x102, x103, xk, xSo, xSi, xPl, xTh, xHe, xWt, xw, xT, xz⟩ := id M1
  repeat' (first
    | ((first | refine T_aload_n (pc1 := 422) (pc := 421) k_L_law_421 rfl rfl ?_ | refine T_aload_nN (pc1 := 422) (pc := 421) k_L_law_421 rfl rfl ?_) <;> try ((first | refine T_aload_n (pc1 := 423) (pc := 422) k_L_law_422 rfl rfl ?_ | refine T_aload_nN (pc1 := 423) (pc := 422) k_L_law_422 rfl rfl ?_) <;> try (refine T_iload_n (pc1 := 424) (pc := 423) k_L_law_423 rfl rfl ?_ <;> try (refine T_iconst (v := (nI 1)) (pc1 := 425) (pc := 424) k_L_law_424 rfl (by decide) ?_ <;> try ((first | with_reducible refine T_iaddN (pc1 := 426) (pc := 425) k_L_law_425 (by decide) ?_ | refine T_iadd (pc1 := 426) (pc := 425) k_L_law_425 rfl ?_) <;> try (refine T_scN (pc1 := 427) (pc := 426) k_L_law_426 rfl (by assumption) (by omega) (by omega) ?_ <;> try ((first | refine T_aload_n (pc1 := 428) (pc := 427) k_L_law_427 rfl rfl ?_ | refine T_aload_nN (pc1 := 428) (pc := 427) k_L_law_427 rfl rfl ?_) <;> try (refine T_iload_n (pc1 := 429) (pc := 428) k_L_law_428 rfl rfl ?_ <;> try (refine T_iconst (v := (nI 2)) (pc1 := 430) (pc := 429) k_L_law_429 rfl (by decide) ?_ <;> try ((first | with_reducible refine T_iaddN (pc1 := 431) (pc := 430) k_L_law_430 (by decide) ?_ | refine T_iadd (pc1 := 431) (pc := 430) k_L_law_430 rfl ?_) <;> try (refine T_scN (pc1 := 432) (pc := 431) k_L_law_431 rfl (by assumption) (by omega) (by omega) ?_)))))))))))
    | refine T_aload_n (pc1 := 423) (pc := 422) k_L_law_422 rfl rfl ?_
    | refine T_aload_nN (pc1 := 423) (pc := 422) k_L_law_422 rfl rfl ?_
    | refine T_iload_n (pc1 := 424) (pc := 423) k_L_law_423 rfl rfl ?_
    | refine T_iconst (v := (nI 1)) (pc1 := 425) (pc := 424) k_L_law_424 rfl (by decide) ?_
    | with_reducible refine T_iaddN (pc1 := 426) (pc := 425) k_L_law_425 (by decide) ?_
    | refine T_iadd (pc1 := 426) (pc := 425) k_L_law_425 rfl ?_
    | refine T_scN (pc1 := 427) (pc := 426) k_L_law_426 rfl (by assumption) (by omega) (by omega) ?_
    | refine T_aload_n (pc1 := 428) (pc := 427) k_L_law_427 rfl rfl ?_
    | refine T_aload_nN (pc1 := 428) (pc := 427) k_L_law_427 rfl rfl ?_
    | refine T_iload_n (pc1 := 429) (pc := 428) k_L_law_428 rfl rfl ?_
    | refine T_iconst (v := (nI 2)) (pc1 := 430) (pc := 429) k_L_law_429 rfl (by decide) ?_
    | with_reducible refine T_iaddN (pc1 := 431) (pc := 430) k_L_law_430 (by decide) ?_
    | refine T_iadd (pc1 := 431) (pc := 430) k_L_law_430 rfl ?_
    | refine T_scN (pc1 := 432) (pc := 431) k_L_law_431 rfl (by assumption) (by omega) (by omega) ?_)
  (refine T_cV (As := [_, _]) (d1 := 2) (pc1 := 435) (pc := 432) k_L_law_432 rfl (by decide) (Nat.le_of_ble_eq_true rfl) rfl o_M_rule l_L_39 rfl (by assumption) rfl (c_M_rule G0 x102 fun J2 r2 f2 q2 e2 => ?_) <;> try dsimp only [psh])
  refine T_icmp_eq_t k_L_law_435 rfl (e1.trans e2.symm) ?_
  exact kk g J2 ⟨_, M, So, Si, Pl, Th, He, Wt, T, n, tn, n2, tn2, w, z, kept, HI_s hH, CI_mo C1 n14 m14 (eqx_fre f2 (by decide)), MI_N M1 f2 (by decide) q2, ⟨ok1, okw1, okk, oks, okh, okt, hw60, fun k hk => (ruleN_hi hk).trans (h1556 k hk)⟩⟩
theorem cs_seed (hI : Inv c G g I) (hi : i + 6 ≤ G.1.2.1) (hl : G.1.2.1 ≤ 384) (kk : ∀ g' J, Inv (c + 1) G g' J → Rl 153 M_L_law 1495 (LL i) [] g' J K) : Rl 153 M_L_law 463 (LL i) [] g I K := by
  obtain ⟨N, M, So, Si, Pl, Th, He, Wt, T, n, tn, n2, tn2, w, z, kept, hH, hC, hM, hO⟩ := hI
  have G0 := hH.1
  have hg := hH.2.1
  obtain ⟨ok, okw, okk, oks, okh, okt, hw60, h1556⟩ := id hO
  have n14 : n ≤ 14 := ok.2.1
  have m14 : kept = true → n2 ≤ 14 := fun k => (okk k).1.2.1
  have a0 : isAg g 0 9 11 := ga G0 (by decide) rfl
  have a1 : isAg g 101 10 31 := ga G0 (by decide) rfl
  obtain ⟨c1, c2, c3, c4, c5, c6, c7⟩ := id hC
  unfold LL
  repeat' (first
    | ((first | refine T_aload_n (pc1 := 464) (pc := 463) k_L_law_463 rfl rfl ?_ | refine T_aload_nN (pc1 := 464) (pc := 463) k_L_law_463 rfl rfl ?_) <;> try ((first | refine T_aload_n (pc1 := 465) (pc := 464) k_L_law_464 rfl rfl ?_ | refine T_aload_nN (pc1 := 465) (pc := 464) k_L_law_464 rfl rfl ?_) <;> try (refine T_iload_n (pc1 := 466) (pc := 465) k_L_law_465 rfl rfl ?_ <;> try (refine T_iconst (v := (nI 1)) (pc1 := 467) (pc := 466) k_L_law_466 rfl (by decide) ?_ <;> try ((first | with_reducible refine T_iaddN (pc1 := 468) (pc := 467) k_L_law_467 (by decide) ?_ | refine T_iadd (pc1 := 468) (pc := 467) k_L_law_467 rfl ?_) <;> try (refine T_scN (pc1 := 469) (pc := 468) k_L_law_468 rfl (by assumption) (by omega) (by omega) ?_))))))
    | refine T_aload_n (pc1 := 465) (pc := 464) k_L_law_464 rfl rfl ?_
    | refine T_aload_nN (pc1 := 465) (pc := 464) k_L_law_464 rfl rfl ?_
    | refine T_iload_n (pc1 := 466) (pc := 465) k_L_law_465 rfl rfl ?_
    | refine T_iconst (v := (nI 1)) (pc1 := 467) (pc := 466) k_L_law_466 rfl (by decide) ?_
    | with_reducible refine T_iaddN (pc1 := 468) (pc := 467) k_L_law_467 (by decide) ?_
    | refine T_iadd (pc1 := 468) (pc := 467) k_L_law_467 rfl ?_
    | refine T_scN (pc1 := 469) (pc := 468) k_L_law_468 rfl (by assumption) (by omega) (by omega) ?_)
  (refine T_cV (As := [_]) (d1 := 1) (pc1 := 472) (pc := 469) k_L_law_469 rfl (by decide) (Nat.le_of_ble_eq_true rfl) rfl o_S_seed l_L_45 rfl (by assumption) rfl (c_S_seed G0 ok okw c1 fun J1 f1 ok1 okw1 L1 => ?_) <;> try dsimp only [psh])
  have C1 := CI_fr (r := 43) hC m14 GS_rf (by omega) (by omega) f1 (fun i hi => Or.inl hi) L1
  have M1 := MI_fr hM f1 (fun i h1 h2 h3 => tf_mod h1 h2 (Or.inl h3))
  obtain ⟨x102, x103, xk, xSo, xSi, xPl, xTh, xHe, xWt, xw, xT, xz⟩ := id M1
  repeat' (first
    | ((first | refine T_aload_n (pc1 := 473) (pc := 472) k_L_law_472 rfl rfl ?_ | refine T_aload_nN (pc1 := 473) (pc := 472) k_L_law_472 rfl rfl ?_) <;> try ((first | refine T_aload_n (pc1 := 474) (pc := 473) k_L_law_473 rfl rfl ?_ | refine T_aload_nN (pc1 := 474) (pc := 473) k_L_law_473 rfl rfl ?_) <;> try (refine T_iload_n (pc1 := 475) (pc := 474) k_L_law_474 rfl rfl ?_ <;> try (refine T_iconst (v := (nI 1)) (pc1 := 476) (pc := 475) k_L_law_475 rfl (by decide) ?_ <;> try ((first | with_reducible refine T_iaddN (pc1 := 477) (pc := 476) k_L_law_476 (by decide) ?_ | refine T_iadd (pc1 := 477) (pc := 476) k_L_law_476 rfl ?_) <;> try (refine T_scN (pc1 := 478) (pc := 477) k_L_law_477 rfl (by assumption) (by omega) (by omega) ?_))))))
    | refine T_aload_n (pc1 := 474) (pc := 473) k_L_law_473 rfl rfl ?_
    | refine T_aload_nN (pc1 := 474) (pc := 473) k_L_law_473 rfl rfl ?_
    | refine T_iload_n (pc1 := 475) (pc := 474) k_L_law_474 rfl rfl ?_
    | refine T_iconst (v := (nI 1)) (pc1 := 476) (pc := 475) k_L_law_475 rfl (by decide) ?_
    | with_reducible refine T_iaddN (pc1 := 477) (pc := 476) k_L_law_476 (by decide) ?_
    | refine T_iadd (pc1 := 477) (pc := 476) k_L_law_476 rfl ?_
    | refine T_scN (pc1 := 478) (pc := 477) k_L_law_477 rfl (by assumption) (by omega) (by omega) ?_)
  (refine T_cV (As := [_]) (d1 := 2) (pc1 := 481) (pc := 478) k_L_law_478 rfl (by decide) (Nat.le_of_ble_eq_true rfl) rfl o_M_seed l_L_48 rfl (by assumption) rfl (c_M_seed G0 x102 fun J2 f2 q2 => ?_) <;> try dsimp only [psh])
  refine T_icmp_eq_t k_L_law_481 rfl rfl ?_
  exact kk g J2 ⟨_, M, So, Si, Pl, Th, He, Wt, T, n, tn, n2, tn2, w, z, kept, HI_s hH, CI_mo C1 n14 m14 (eqx_fre f2 (by decide)), MI_N M1 f2 (by decide) q2, ⟨ok1, okw1, okk, oks, okh, okt, hw60, fun k hk => (va_up_ne _ _ (by omega)).trans (h1556 k hk)⟩⟩
theorem cs_hush (hI : Inv c G g I) (hi : i + 6 ≤ G.1.2.1) (hl : G.1.2.1 ≤ 384) (kk : ∀ g' J, Inv (c + 1) G g' J → Rl 153 M_L_law 1495 (LL i) [] g' J K) : Rl 153 M_L_law 565 (LL i) [] g I K := by
  obtain ⟨N, M, So, Si, Pl, Th, He, Wt, T, n, tn, n2, tn2, w, z, kept, hH, hC, hM, hO⟩ := hI
  have G0 := hH.1
  have hg := hH.2.1
  obtain ⟨ok, okw, okk, oks, okh, okt, hw60, h1556⟩ := id hO
  have n14 : n ≤ 14 := ok.2.1
  have m14 : kept = true → n2 ≤ 14 := fun k => (okk k).1.2.1
  have a0 : isAg g 0 9 11 := ga G0 (by decide) rfl
  have a1 : isAg g 101 10 31 := ga G0 (by decide) rfl
  obtain ⟨c1, c2, c3, c4, c5, c6, c7⟩ := id hC
  unfold LL
  repeat' (first
    | ((first | refine T_aload_n (pc1 := 566) (pc := 565) k_L_law_565 rfl rfl ?_ | refine T_aload_nN (pc1 := 566) (pc := 565) k_L_law_565 rfl rfl ?_)))
  (refine T_cV (As := []) (d1 := 2) (pc1 := 569) (pc := 566) k_L_law_566 rfl (by decide) (Nat.le_of_ble_eq_true rfl) rfl o_S_hush l_L_61 rfl (by assumption) rfl (c_S_hush G0 ok okw c1 fun J1 f1 ok1 okw1 L1 => ?_) <;> try dsimp only [psh])
  have C1 := CI_fr (r := 43) hC m14 GS_rf (by omega) (by omega) f1 (fun i hi => Or.inl hi) L1
  have M1 := MI_fr hM f1 (fun i h1 h2 h3 => tf_mod h1 h2 (Or.inl h3))
  obtain ⟨x102, x103, xk, xSo, xSi, xPl, xTh, xHe, xWt, xw, xT, xz⟩ := id M1
  repeat' (first
    | ((first | refine T_aload_n (pc1 := 570) (pc := 569) k_L_law_569 rfl rfl ?_ | refine T_aload_nN (pc1 := 570) (pc := 569) k_L_law_569 rfl rfl ?_)))
  (refine T_cV (As := []) (d1 := 2) (pc1 := 573) (pc := 570) k_L_law_570 rfl (by decide) (Nat.le_of_ble_eq_true rfl) rfl o_M_hush l_L_65 rfl (by assumption) rfl (c_M_hush G0 x102 ok.1 n14 fun J2 f2 q2 => ?_) <;> try dsimp only [psh])
  refine T_icmp_eq_t k_L_law_573 rfl rfl ?_
  exact kk g J2 ⟨_, M, So, Si, Pl, Th, He, Wt, T, n, tn, n2, tn2, w, z, kept, HI_s hH, CI_mo C1 n14 m14 (eqx_fre f2 (by decide)), MI_N M1 f2 (by decide) q2, ⟨ok1, okw1, okk, oks, okh, okt, hw60, fun k hk => (hsN_hi n14 hk).trans (h1556 k hk)⟩⟩
end L2
