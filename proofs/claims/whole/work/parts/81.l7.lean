/-! The law: tell. -/
section PL7
/-- cell 0 and the waiting numbers move: the rest of the class stays -/
theorem CI_w {g : Geo} {I J : IM} {N M So Si Pl Th He Wt Wt' T : Row} {n tn n2 tn2 w w' z : Nat} {kept : Bool} (h : CI g I N M So Si Pl Th He Wt T n tn n2 tn2 w z kept) (hn : n ≤ 14) (h14 : kept = true → n2 ≤ 14) (hf : fre (fun i => i = 0 ∨ i = 72) I J) (h2 : J 0 2 = I 0 2) (hW : CW J Wt' w') : CI g J N M So Si Pl Th He Wt' T n tn n2 tn2 w' z kept := by
  obtain ⟨c1, c2, c3, c4, c5, c6, c7⟩ := h
  refine ⟨LR_fr (r := 43) c1 hn GS_rf (by omega) (by omega) hf (fun i hi => by unfold lnd at hi; omega) (fun i hi => Or.inl (by omega)), h2.trans c2, fun k => LR_fr (r := 43) (c3 k) (h14 k) GS_rf (by omega) (by omega) hf (fun i hi => by unfold lnd at hi; omega) (fun i hi => Or.inl (by omega)), CS_fr c4 hf (fun i hi => by unfold shf at hi; omega), CH_fr c5 hf (fun i hi => by unfold slf at hi; omega), hW, ?_⟩
  unfold CT at *
  rw [hf 67 (by omega), hf 68 (by omega)]
  exact c7
theorem tellW_le {w : Nat} (h : w ≤ 60) : tellW w ≤ 60 := by
  unfold tellW
  split <;> omega
end PL7
section L7
variable {g G : Geo} {I : IM} {K : Option Value → Geo → IM → Prop} {c i : Nat}
theorem cs_tell (hI : Inv c G g I) (hi : i + 6 ≤ G.1.2.1) (hl : G.1.2.1 ≤ 384) (kk : ∀ g' J, Inv (c + 1) G g' J → Rl 153 M_L_law 1495 (LL i) [] g' J K) : Rl 153 M_L_law 1380 (LL i) [] g I K := by
  obtain ⟨N, M, So, Si, Pl, Th, He, Wt, T, n, tn, n2, tn2, w, z, kept, hH, hC, hM, hO⟩ := hI
  have G0 := hH.1
  have hg := hH.2.1
  obtain ⟨ok, okw, okk, oks, okh, okt, hw60, h1556⟩ := id hO
  have n14 : n ≤ 14 := ok.2.1
  have m14 : kept = true → n2 ≤ 14 := fun k => (okk k).1.2.1
  have a0 : isAg g 0 9 11 := ga G0 (by decide) rfl
  have a1 : isAg g 101 10 31 := ga G0 (by decide) rfl
  obtain ⟨c1, c2, c3, c4, c5, c6, c7⟩ := id hC
  unfold LL
  repeat' (first
    | ((first | refine T_aload_n (pc1 := 1381) (pc := 1380) k_L_law_1380 rfl rfl ?_ | refine T_aload_nN (pc1 := 1381) (pc := 1380) k_L_law_1380 rfl rfl ?_) <;> try ((first | refine T_aload_n (pc1 := 1382) (pc := 1381) k_L_law_1381 rfl rfl ?_ | refine T_aload_nN (pc1 := 1382) (pc := 1381) k_L_law_1381 rfl rfl ?_) <;> try (refine T_iload_n (pc1 := 1383) (pc := 1382) k_L_law_1382 rfl rfl ?_ <;> try (refine T_iconst (v := (nI 1)) (pc1 := 1384) (pc := 1383) k_L_law_1383 rfl (by decide) ?_ <;> try ((first | with_reducible refine T_iaddN (pc1 := 1385) (pc := 1384) k_L_law_1384 (by decide) ?_ | refine T_iadd (pc1 := 1385) (pc := 1384) k_L_law_1384 rfl ?_) <;> try (refine T_scN (pc1 := 1386) (pc := 1385) k_L_law_1385 rfl (by assumption) (by omega) (by omega) ?_))))))
    | refine T_aload_n (pc1 := 1382) (pc := 1381) k_L_law_1381 rfl rfl ?_
    | refine T_aload_nN (pc1 := 1382) (pc := 1381) k_L_law_1381 rfl rfl ?_
    | refine T_iload_n (pc1 := 1383) (pc := 1382) k_L_law_1382 rfl rfl ?_
    | refine T_iconst (v := (nI 1)) (pc1 := 1384) (pc := 1383) k_L_law_1383 rfl (by decide) ?_
    | with_reducible refine T_iaddN (pc1 := 1385) (pc := 1384) k_L_law_1384 (by decide) ?_
    | refine T_iadd (pc1 := 1385) (pc := 1384) k_L_law_1384 rfl ?_
    | refine T_scN (pc1 := 1386) (pc := 1385) k_L_law_1385 rfl (by assumption) (by omega) (by omega) ?_)
  (refine T_cV (As := [_]) (d1 := 1) (pc1 := 1389) (pc := 1386) k_L_law_1386 rfl (by decide) (Nat.le_of_ble_eq_true rfl) rfl o_S_tell l_L_163 rfl (by assumption) rfl (c_S_tell G0 c6 hw60 fun J1 r1 f1 y1 S1 e1 => ?_) <;> try dsimp only [psh])
  have C1 := CI_w hC n14 m14 f1 (y1 2 (by decide)) S1
  have M1 := MI_fr hM f1 (fun i h1 h2 h3 => by omega)
  obtain ⟨x102, x103, xk, xSo, xSi, xPl, xTh, xHe, xWt, xw, xT, xz⟩ := id M1
  repeat' (first
    | ((first | refine T_aload_n (pc1 := 1390) (pc := 1389) k_L_law_1389 rfl rfl ?_ | refine T_aload_nN (pc1 := 1390) (pc := 1389) k_L_law_1389 rfl rfl ?_) <;> try ((first | refine T_aload_n (pc1 := 1391) (pc := 1390) k_L_law_1390 rfl rfl ?_ | refine T_aload_nN (pc1 := 1391) (pc := 1390) k_L_law_1390 rfl rfl ?_) <;> try (refine T_iload_n (pc1 := 1392) (pc := 1391) k_L_law_1391 rfl rfl ?_ <;> try (refine T_iconst (v := (nI 1)) (pc1 := 1393) (pc := 1392) k_L_law_1392 rfl (by decide) ?_ <;> try ((first | with_reducible refine T_iaddN (pc1 := 1394) (pc := 1393) k_L_law_1393 (by decide) ?_ | refine T_iadd (pc1 := 1394) (pc := 1393) k_L_law_1393 rfl ?_) <;> try (refine T_scN (pc1 := 1395) (pc := 1394) k_L_law_1394 rfl (by assumption) (by omega) (by omega) ?_))))))
    | refine T_aload_n (pc1 := 1391) (pc := 1390) k_L_law_1390 rfl rfl ?_
    | refine T_aload_nN (pc1 := 1391) (pc := 1390) k_L_law_1390 rfl rfl ?_
    | refine T_iload_n (pc1 := 1392) (pc := 1391) k_L_law_1391 rfl rfl ?_
    | refine T_iconst (v := (nI 1)) (pc1 := 1393) (pc := 1392) k_L_law_1392 rfl (by decide) ?_
    | with_reducible refine T_iaddN (pc1 := 1394) (pc := 1393) k_L_law_1393 (by decide) ?_
    | refine T_iadd (pc1 := 1394) (pc := 1393) k_L_law_1393 rfl ?_
    | refine T_scN (pc1 := 1395) (pc := 1394) k_L_law_1394 rfl (by assumption) (by omega) (by omega) ?_)
  (refine T_cV (As := [_]) (d1 := 1) (pc1 := 1398) (pc := 1395) k_L_law_1395 rfl (by decide) (Nat.le_of_ble_eq_true rfl) rfl o_M_tell l_L_166 rfl (by assumption) rfl (c_M_tell G0 xWt xw hw60 fun J2 r2 f2 q1 q2 e2 => ?_) <;> try dsimp only [psh])
  refine T_icmp_eq_t k_L_law_1398 rfl (e1.trans e2.symm) ?_
  refine kk g J2 ⟨N, M, So, Si, Pl, Th, He, _, T, n, tn, n2, tn2, _, z, kept, HI_s hH, CI_mo C1 n14 m14 (eqx_fre f2 (by decide)), ?_, ⟨ok, okw, okk, oks, okh, okt, tellW_le hw60, h1556⟩⟩
  unfold MI
  rw [q2, f2 102 (by decide), f2 103 (by decide), f2 108 (by decide), f2 114 (by decide), f2 115 (by decide), f2 116 (by decide), f2 118 (by decide), f2 119 (by decide), va_up_ne _ _ (by decide), va_up_self, va_up_ne _ _ (by decide)]
  exact ⟨x102, x103, xk, xSo, xSi, xPl, xTh, xHe, q1, rfl, xT, xz⟩
end L7
