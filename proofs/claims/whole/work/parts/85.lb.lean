/-! The law: check, text. -/
section PLb
theorem textN_hi {N T C0 : Row} {n tn z k : Nat} (ok : okL N n tn) (okt : okTp T z) (hk : 1556 ≤ k) : textN N tn T z C0 k = N k := by
  have t14 := ok.2.2.2.1
  unfold textN
  split
  · rename_i h
    have q := (rdA_ok (C0 := C0) okt h.1).2.2.1
    have := h.2
    unfold tAdd
    rw [va_up_ne _ _ (by omega), pk_cpy_out (by omega), va_up_ne _ _ (by omega), va_up_ne _ _ (by omega), va_up_ne _ _ (by omega)]
  · rfl
/-- check: cell 0's count of waiting numbers, and where it thinks ahead -/
theorem CI_ck {g g' : Geo} {I J : IM} {N M So Si Pl Th He Wt T : Row} {n tn n2 tn2 w z : Nat} {kept : Bool} (h : CI g I N M So Si Pl Th He Wt T n tn n2 tn2 w z kept) (hn : n ≤ 14) (h14 : kept = true → n2 ≤ 14) (hG : GS 43 g g') (hf : fre (fun i => i = 0 ∨ tf i) I J) (h0 : J 0 = va_up (I 0) 10 (nI 0)) : CI g' J N M So Si Pl Th He Wt T n tn n2 tn2 0 z kept := by
  obtain ⟨c1, c2, c3, c4, c5, c6, c7⟩ := h
  have q : ∀ i, i < 121 → ((1 ≤ i ∧ i < 41) ∨ i = 63 ∨ 66 ≤ i) → ¬ (i = 0 ∨ tf i) := fun i h1 h2 h3 => by
    unfold tf wf1 lnd stk at h3
    omega
  have q2 : ∀ i, (i = 0 ∨ tf i) → i < 121 ∨ stk i := fun i h3 => by
    unfold tf wf1 lnd at h3
    unfold stk at *
    omega
  refine ⟨LR_fr c1 hn hG (by omega) (by omega) hf (fun i hi => q i (by unfold lnd at hi; omega) (by unfold lnd at hi; omega)) q2, ?_, fun k => LR_fr (c3 k) (h14 k) hG (by omega) (by omega) hf (fun i hi => q i (by unfold lnd at hi; omega) (by unfold lnd at hi; omega)) q2, CS_fr c4 hf (fun i hi => q i (by unfold shf at hi; omega) (by unfold shf at hi; omega)), CH_fr c5 hf (fun i hi => q i (by unfold slf at hi; omega) (by unfold slf at hi; omega)), ⟨?_, fun k hk => by omega⟩, ?_⟩
  · rw [h0, va_up_ne _ _ (by decide)]; exact c2
  · rw [h0, va_up_self]
  · unfold CT at *
    rw [hf 67 (q 67 (by omega) (by omega)), hf 68 (q 68 (by omega) (by omega))]
    exact c7
/-- text: the heap grows -/
theorem CI_tx {g g' : Geo} {I J : IM} {N N' M So Si Pl Th He Wt T : Row} {n tn tn' n2 tn2 w z : Nat} {kept : Bool} (G : GeoOK g) (h : CI g I N M So Si Pl Th He Wt T n tn n2 tn2 w z kept) (h14 : kept = true → n2 ≤ 14) (gx : GX g g') (f1 : ∀ i, i < gz g → ¬ txf i → J i = I i) (hL : LaR g' J 1 N' n tn') (h0 : J 67 1 = nI 0) : CI g' J N' M So Si Pl Th He Wt T n tn' n2 tn2 w 0 kept ∧ fre (fun i => txf i ∨ gz g ≤ i) I J := by
  obtain ⟨c1, c2, c3, c4, c5, c6, c7⟩ := h
  have zz := G.1
  have hf : fre (fun i => txf i ∨ gz g ≤ i) I J := fun i hi => f1 i (Nat.lt_of_not_le (fun q => hi (Or.inr q))) (fun q => hi (Or.inl q))
  refine ⟨⟨hL, ?_, fun k => GX_L gx G rfl (c3 k) (h14 k) (fun i h1 h2 => f1 i h1 (by unfold txf lnd; omega)), CS_fr c4 hf (fun i hi => by unfold shf at hi; unfold txf lnd; omega), CH_fr c5 hf (fun i hi => by unfold slf at hi; unfold txf lnd; omega), ?_, ⟨h0, fun k hk => by omega⟩⟩, hf⟩
  · rw [hf 0 (by unfold txf lnd; omega)]; exact c2
  · unfold CW at *
    rw [hf 0 (by unfold txf lnd; omega), hf 72 (by unfold txf lnd; omega)]
    exact c6
end PLb
section Lb
variable {g G : Geo} {I : IM} {K : Option Value → Geo → IM → Prop} {c i : Nat}
theorem cs_check (hI : Inv c G g I) (hi : i + 6 ≤ G.1.2.1) (hl : G.1.2.1 ≤ 384) (kk : ∀ g' J, Inv (c + 1) G g' J → Rl 153 M_L_law 1495 (LL i) [] g' J K) : Rl 153 M_L_law 1403 (LL i) [] g I K := by
  obtain ⟨N, M, So, Si, Pl, Th, He, Wt, T, n, tn, n2, tn2, w, z, kept, hH, hC, hM, hO⟩ := hI
  have G0 := hH.1
  have hg := hH.2.1
  obtain ⟨ok, okw, okk, oks, okh, okt, hw60, h1556⟩ := id hO
  have n14 : n ≤ 14 := ok.2.1
  have m14 : kept = true → n2 ≤ 14 := fun k => (okk k).1.2.1
  have a0 : isAg g 0 9 11 := ga G0 (by decide) rfl
  have a1 : isAg g 101 10 31 := ga G0 (by decide) rfl
  obtain ⟨c1, c2, c3, c4, c5, c6, c7⟩ := id hC
  unfold LL
  repeat' (first
    | ((first | refine T_aload_n (pc1 := 1404) (pc := 1403) k_L_law_1403 rfl rfl ?_ | refine T_aload_nN (pc1 := 1404) (pc := 1403) k_L_law_1403 rfl rfl ?_) <;> try ((first | refine T_aload_n (pc1 := 1405) (pc := 1404) k_L_law_1404 rfl rfl ?_ | refine T_aload_nN (pc1 := 1405) (pc := 1404) k_L_law_1404 rfl rfl ?_) <;> try (refine T_iload_n (pc1 := 1406) (pc := 1405) k_L_law_1405 rfl rfl ?_ <;> try (refine T_iconst (v := (nI 1)) (pc1 := 1407) (pc := 1406) k_L_law_1406 rfl (by decide) ?_ <;> try ((first | with_reducible refine T_iaddN (pc1 := 1408) (pc := 1407) k_L_law_1407 (by decide) ?_ | refine T_iadd (pc1 := 1408) (pc := 1407) k_L_law_1407 rfl ?_) <;> try (refine T_scN (pc1 := 1409) (pc := 1408) k_L_law_1408 rfl (by assumption) (by omega) (by omega) ?_ <;> try ((first | refine T_aload_n (pc1 := 1410) (pc := 1409) k_L_law_1409 rfl rfl ?_ | refine T_aload_nN (pc1 := 1410) (pc := 1409) k_L_law_1409 rfl rfl ?_) <;> try (refine T_iload_n (pc1 := 1411) (pc := 1410) k_L_law_1410 rfl rfl ?_ <;> try (refine T_iconst (v := (nI 2)) (pc1 := 1412) (pc := 1411) k_L_law_1411 rfl (by decide) ?_ <;> try ((first | with_reducible refine T_iaddN (pc1 := 1413) (pc := 1412) k_L_law_1412 (by decide) ?_ | refine T_iadd (pc1 := 1413) (pc := 1412) k_L_law_1412 rfl ?_) <;> try (refine T_scN (pc1 := 1414) (pc := 1413) k_L_law_1413 rfl (by assumption) (by omega) (by omega) ?_ <;> try ((first | refine T_aload_n (pc1 := 1415) (pc := 1414) k_L_law_1414 rfl rfl ?_ | refine T_aload_nN (pc1 := 1415) (pc := 1414) k_L_law_1414 rfl rfl ?_) <;> try (refine T_iload_n (pc1 := 1416) (pc := 1415) k_L_law_1415 rfl rfl ?_ <;> try (refine T_iconst (v := (nI 3)) (pc1 := 1417) (pc := 1416) k_L_law_1416 rfl (by decide) ?_))))))))))))))
    | ((first | with_reducible refine T_iaddN (pc1 := 1418) (pc := 1417) k_L_law_1417 (by decide) ?_ | refine T_iadd (pc1 := 1418) (pc := 1417) k_L_law_1417 rfl ?_) <;> try (refine T_scN (pc1 := 1419) (pc := 1418) k_L_law_1418 rfl (by assumption) (by omega) (by omega) ?_))
    | refine T_aload_n (pc1 := 1405) (pc := 1404) k_L_law_1404 rfl rfl ?_
    | refine T_aload_nN (pc1 := 1405) (pc := 1404) k_L_law_1404 rfl rfl ?_
    | refine T_iload_n (pc1 := 1406) (pc := 1405) k_L_law_1405 rfl rfl ?_
    | refine T_iconst (v := (nI 1)) (pc1 := 1407) (pc := 1406) k_L_law_1406 rfl (by decide) ?_
    | with_reducible refine T_iaddN (pc1 := 1408) (pc := 1407) k_L_law_1407 (by decide) ?_
    | refine T_iadd (pc1 := 1408) (pc := 1407) k_L_law_1407 rfl ?_
    | refine T_scN (pc1 := 1409) (pc := 1408) k_L_law_1408 rfl (by assumption) (by omega) (by omega) ?_
    | refine T_aload_n (pc1 := 1410) (pc := 1409) k_L_law_1409 rfl rfl ?_
    | refine T_aload_nN (pc1 := 1410) (pc := 1409) k_L_law_1409 rfl rfl ?_
    | refine T_iload_n (pc1 := 1411) (pc := 1410) k_L_law_1410 rfl rfl ?_
    | refine T_iconst (v := (nI 2)) (pc1 := 1412) (pc := 1411) k_L_law_1411 rfl (by decide) ?_
    | with_reducible refine T_iaddN (pc1 := 1413) (pc := 1412) k_L_law_1412 (by decide) ?_
    | refine T_iadd (pc1 := 1413) (pc := 1412) k_L_law_1412 rfl ?_
    | refine T_scN (pc1 := 1414) (pc := 1413) k_L_law_1413 rfl (by assumption) (by omega) (by omega) ?_
    | refine T_aload_n (pc1 := 1415) (pc := 1414) k_L_law_1414 rfl rfl ?_
    | refine T_aload_nN (pc1 := 1415) (pc := 1414) k_L_law_1414 rfl rfl ?_
    | refine T_iload_n (pc1 := 1416) (pc := 1415) k_L_law_1415 rfl rfl ?_
    | refine T_iconst (v := (nI 3)) (pc1 := 1417) (pc := 1416) k_L_law_1416 rfl (by decide) ?_
    | refine T_scN (pc1 := 1419) (pc := 1418) k_L_law_1418 rfl (by assumption) (by omega) (by omega) ?_)
  (refine T_cV (As := [_, _, _]) (d1 := 7) (pc1 := 1422) (pc := 1419) k_L_law_1419 rfl (by decide) (Nat.le_of_ble_eq_true rfl) rfl o_S_check l_L_167 rfl (by assumption) rfl (c_S_check G0 c2 (fun k => (okk k).1) (fun k => (okk k).2) c3 c6 hw60 fun g1 J1 r1 G1 s1 f1 y1 e1 => ?_) <;> try dsimp only [psh])
  have hg1 : g1.1 = G.1 := s1.1.trans hg
  have b1 : isAg g1 101 10 31 := ga G1 (by decide) rfl
  have C1 := CI_ck hC n14 m14 s1 f1 y1
  have M1 := MI_fr hM f1 (fun i h1 h2 h3 => h3.elim (fun q => by omega) (fun q => tf_mod h1 h2 (Or.inr q)))
  obtain ⟨x102, x103, xk, xSo, xSi, xPl, xTh, xHe, xWt, xw, xT, xz⟩ := id M1
  repeat' (first
    | ((first | refine T_aload_n (pc1 := 1423) (pc := 1422) k_L_law_1422 rfl rfl ?_ | refine T_aload_nN (pc1 := 1423) (pc := 1422) k_L_law_1422 rfl rfl ?_) <;> try ((first | refine T_aload_n (pc1 := 1424) (pc := 1423) k_L_law_1423 rfl rfl ?_ | refine T_aload_nN (pc1 := 1424) (pc := 1423) k_L_law_1423 rfl rfl ?_) <;> try (refine T_iload_n (pc1 := 1425) (pc := 1424) k_L_law_1424 rfl rfl ?_ <;> try (refine T_iconst (v := (nI 1)) (pc1 := 1426) (pc := 1425) k_L_law_1425 rfl (by decide) ?_ <;> try ((first | with_reducible refine T_iaddN (pc1 := 1427) (pc := 1426) k_L_law_1426 (by decide) ?_ | refine T_iadd (pc1 := 1427) (pc := 1426) k_L_law_1426 rfl ?_) <;> try (refine T_scN (pc1 := 1428) (pc := 1427) k_L_law_1427 rfl (by assumption) (by omega) (by omega) ?_ <;> try ((first | refine T_aload_n (pc1 := 1429) (pc := 1428) k_L_law_1428 rfl rfl ?_ | refine T_aload_nN (pc1 := 1429) (pc := 1428) k_L_law_1428 rfl rfl ?_) <;> try (refine T_iload_n (pc1 := 1430) (pc := 1429) k_L_law_1429 rfl rfl ?_ <;> try (refine T_iconst (v := (nI 2)) (pc1 := 1431) (pc := 1430) k_L_law_1430 rfl (by decide) ?_ <;> try ((first | with_reducible refine T_iaddN (pc1 := 1432) (pc := 1431) k_L_law_1431 (by decide) ?_ | refine T_iadd (pc1 := 1432) (pc := 1431) k_L_law_1431 rfl ?_) <;> try (refine T_scN (pc1 := 1433) (pc := 1432) k_L_law_1432 rfl (by assumption) (by omega) (by omega) ?_ <;> try ((first | refine T_aload_n (pc1 := 1434) (pc := 1433) k_L_law_1433 rfl rfl ?_ | refine T_aload_nN (pc1 := 1434) (pc := 1433) k_L_law_1433 rfl rfl ?_) <;> try (refine T_iload_n (pc1 := 1435) (pc := 1434) k_L_law_1434 rfl rfl ?_ <;> try (refine T_iconst (v := (nI 3)) (pc1 := 1436) (pc := 1435) k_L_law_1435 rfl (by decide) ?_))))))))))))))
    | ((first | with_reducible refine T_iaddN (pc1 := 1437) (pc := 1436) k_L_law_1436 (by decide) ?_ | refine T_iadd (pc1 := 1437) (pc := 1436) k_L_law_1436 rfl ?_) <;> try (refine T_scN (pc1 := 1438) (pc := 1437) k_L_law_1437 rfl (by assumption) (by omega) (by omega) ?_))
    | refine T_aload_n (pc1 := 1424) (pc := 1423) k_L_law_1423 rfl rfl ?_
    | refine T_aload_nN (pc1 := 1424) (pc := 1423) k_L_law_1423 rfl rfl ?_
    | refine T_iload_n (pc1 := 1425) (pc := 1424) k_L_law_1424 rfl rfl ?_
    | refine T_iconst (v := (nI 1)) (pc1 := 1426) (pc := 1425) k_L_law_1425 rfl (by decide) ?_
    | with_reducible refine T_iaddN (pc1 := 1427) (pc := 1426) k_L_law_1426 (by decide) ?_
    | refine T_iadd (pc1 := 1427) (pc := 1426) k_L_law_1426 rfl ?_
    | refine T_scN (pc1 := 1428) (pc := 1427) k_L_law_1427 rfl (by assumption) (by omega) (by omega) ?_
    | refine T_aload_n (pc1 := 1429) (pc := 1428) k_L_law_1428 rfl rfl ?_
    | refine T_aload_nN (pc1 := 1429) (pc := 1428) k_L_law_1428 rfl rfl ?_
    | refine T_iload_n (pc1 := 1430) (pc := 1429) k_L_law_1429 rfl rfl ?_
    | refine T_iconst (v := (nI 2)) (pc1 := 1431) (pc := 1430) k_L_law_1430 rfl (by decide) ?_
    | with_reducible refine T_iaddN (pc1 := 1432) (pc := 1431) k_L_law_1431 (by decide) ?_
    | refine T_iadd (pc1 := 1432) (pc := 1431) k_L_law_1431 rfl ?_
    | refine T_scN (pc1 := 1433) (pc := 1432) k_L_law_1432 rfl (by assumption) (by omega) (by omega) ?_
    | refine T_aload_n (pc1 := 1434) (pc := 1433) k_L_law_1433 rfl rfl ?_
    | refine T_aload_nN (pc1 := 1434) (pc := 1433) k_L_law_1433 rfl rfl ?_
    | refine T_iload_n (pc1 := 1435) (pc := 1434) k_L_law_1434 rfl rfl ?_
    | refine T_iconst (v := (nI 3)) (pc1 := 1436) (pc := 1435) k_L_law_1435 rfl (by decide) ?_
    | refine T_scN (pc1 := 1438) (pc := 1437) k_L_law_1437 rfl (by assumption) (by omega) (by omega) ?_)
  (refine T_cV (As := [_, _, _]) (d1 := 6) (pc1 := 1441) (pc := 1438) k_L_law_1438 rfl (by decide) (Nat.le_of_ble_eq_true rfl) rfl o_M_check l_L_170 rfl (by assumption) rfl (c_M_check G1 x102 x103 h1556 xk (fun k => (okk k).1) xw hw60 xWt fun J2 r2 f2 q1 e2 => ?_) <;> try dsimp only [psh])
  refine T_icmp_eq_t k_L_law_1441 rfl (e1.trans e2.symm) ?_
  refine kk g1 J2 ⟨N, M, So, Si, Pl, Th, He, Wt, T, n, tn, n2, tn2, 0, z, kept, HI_GS hH G1 s1, CI_mo C1 n14 m14 (eqx_fre f2 (by decide)), ?_, ⟨ok, okw, okk, oks, okh, okt, by omega, h1556⟩⟩
  unfold MI
  rw [q1, f2 102 (by decide), f2 103 (by decide), f2 108 (by decide), f2 114 (by decide), f2 115 (by decide), f2 116 (by decide), f2 118 (by decide), f2 119 (by decide), f2 120 (by decide), va_up_ne _ _ (by decide), va_up_self, va_up_ne _ _ (by decide)]
  exact ⟨x102, x103, xk, xSo, xSi, xPl, xTh, xHe, xWt, rfl, xT, xz⟩
theorem cs_text (hI : Inv c G g I) (hi : i + 6 ≤ G.1.2.1) (hl : G.1.2.1 ≤ 384) (hF : G.1.2.2.category = 1) (hc : c ≤ 64) (kk : ∀ g' J, Inv (c + 1) G g' J → Rl 153 M_L_law 1495 (LL i) [] g' J K) : Rl 153 M_L_law 974 (LL i) [] g I K := by
  obtain ⟨N, M, So, Si, Pl, Th, He, Wt, T, n, tn, n2, tn2, w, z, kept, hH, hC, hM, hO⟩ := hI
  have G0 := hH.1
  have hg := hH.2.1
  obtain ⟨ok, okw, okk, oks, okh, okt, hw60, h1556⟩ := id hO
  have n14 : n ≤ 14 := ok.2.1
  have m14 : kept = true → n2 ≤ 14 := fun k => (okk k).1.2.1
  have a0 : isAg g 0 9 11 := ga G0 (by decide) rfl
  have a1 : isAg g 101 10 31 := ga G0 (by decide) rfl
  obtain ⟨c1, c2, c3, c4, c5, c6, c7⟩ := id hC
  unfold LL
  repeat' (first
    | ((first | refine T_aload_n (pc1 := 975) (pc := 974) k_L_law_974 rfl rfl ?_ | refine T_aload_nN (pc1 := 975) (pc := 974) k_L_law_974 rfl rfl ?_)))
  have hz := hH.2.2.1
  have hs := hH.2.2.2.2
  (refine T_cV (As := []) (d1 := 152) (pc1 := 978) (pc := 975) k_L_law_975 rfl (by decide) (Nat.le_of_ble_eq_true rfl) rfl o_S_text l_L_114 rfl (by assumption) rfl (c_S_text (C0 := I 111) G0 (by rw [hg]; exact hF) okt ok okw c1 c7 (by omega) hH.2.2.2.1 fun g1 J1 r1 tn' G1 gx z1 z3 s1 ok1 okw1 L1 f1 y1 e1 => ?_) <;> try dsimp only [psh])
  have hg1 : g1.1 = G.1 := gx.1.trans hg
  have b1 : isAg g1 101 10 31 := ga G1 (by decide) rfl
  have z121 := G0.1
  obtain ⟨C1, ff1⟩ := CI_tx G0 hC m14 gx f1 L1 y1
  have M1 := MI_fr hM ff1 (fun i h1 h2 h3 => by unfold txf lnd at h3; omega)
  have e111 : J1 111 = I 111 := ff1 111 (by unfold txf lnd; omega)
  obtain ⟨x102, x103, xk, xSo, xSi, xPl, xTh, xHe, xWt, xw, xT, xz⟩ := id M1
  repeat' (first
    | ((first | refine T_aload_n (pc1 := 979) (pc := 978) k_L_law_978 rfl rfl ?_ | refine T_aload_nN (pc1 := 979) (pc := 978) k_L_law_978 rfl rfl ?_)))
  (refine T_cV (As := []) (d1 := 152) (pc1 := 982) (pc := 979) k_L_law_979 rfl (by decide) (Nat.le_of_ble_eq_true rfl) rfl o_M_text l_L_117 rfl (by assumption) rfl (c_M_text G1 (by rw [hg1]; exact hF) okt x102 ok xT xz e111 fun J2 r2 f2 q1 q2 q3 e2 => ?_) <;> try dsimp only [psh])
  refine T_icmp_eq_t k_L_law_982 rfl (e1.trans e2.symm) ?_
  refine kk g1 J2 ⟨_, M, So, Si, Pl, Th, He, Wt, T, n, tn', n2, tn2, w, 0, kept, ⟨G1, hg1, by omega, z3, by omega⟩, CI_mo C1 n14 m14 (eqx_fre f2 (by decide)), ?_, ⟨ok1, okw1, okk, oks, okh, ⟨by omega, fun k hk => by omega⟩, hw60, fun k hk => (textN_hi ok okt hk).trans (h1556 k hk)⟩⟩
  unfold MI
  rw [q1, q2 2 (by omega) (by omega), q2 30 (by omega) (by omega), q3, f2 103 (by decide), f2 108 (by decide), f2 114 (by decide), f2 115 (by decide), f2 116 (by decide), f2 118 (by decide), f2 119 (by decide), f2 120 (by decide)]
  exact ⟨rfl, x103, xk, xSo, xSi, xPl, xTh, xHe, xWt, xw, xT, rfl⟩
end Lb
