/-! The law: cases that only read. -/
section PL1
theorem T_scN {d : Nat} {μ : Mth} {pc pc1 j : Nat} {L : Lcl} {S : List Value} {g G : Geo} {I : IM} {P : Option Value → Geo → IM → Prop} (hf : Fe μ pc .iaload 1) (hq : pc + 1 = pc1) (hg : g.1 = G.1) (hj : j < G.1.2.1) (hl : G.1.2.1 < 2147483648) (kR : Rl d μ pc1 L (.int (G.1.1 j) :: S) g I P) : Rl d μ pc L (.int (nI j) :: .ref 1000300 :: S) g I P := by
  rw [← hg] at *
  exact T_scld hf hq (vp_in_nI hj hl) (by rw [nI_clamp (Nat.lt_trans hj hl)]; exact kR)
def LL (i : Nat) : Lcl := [some (.ref 1000300), some (.ref 0), some (.ref 101), some (.int (nI i))]
theorem MI_q {S : List Nat} {I J : IM} {N M So Si Pl Th He Wt T : Row} {w z : Nat} {kept : Bool} (h : MI I N M So Si Pl Th He Wt T w z kept) (hf : eqx S I J) (hS : ∀ i, i ∈ [101, 102, 103, 108, 114, 115, 116, 118, 119, 120] → i ∉ S) : MI J N M So Si Pl Th He Wt T w z kept := by
  unfold MI at *
  rw [hf 101 (hS _ (by decide)), hf 102 (hS _ (by decide)), hf 103 (hS _ (by decide)), hf 108 (hS _ (by decide)), hf 114 (hS _ (by decide)), hf 115 (hS _ (by decide)), hf 116 (hS _ (by decide)), hf 118 (hS _ (by decide)), hf 119 (hS _ (by decide)), hf 120 (hS _ (by decide))]
  exact h
theorem stk_tf {i : Nat} (h : stk i) : lnd 1 i ∨ tf i := Or.inr (Or.inl (Or.inr (Or.inr (Or.inr h))))
theorem ff_tf {i : Nat} (h : ff i) : lnd 1 i ∨ tf i := Or.inr (Or.inl (Or.inr h))
theorem tf_121 {i : Nat} (h : lnd 1 i ∨ tf i) : i < 121 ∨ stk i := by
  unfold tf wf1 lnd at h
  unfold stk at *
  omega
theorem tf_mod {i : Nat} (h1 : 101 ≤ i) (h2 : i < 121) (h : lnd 1 i ∨ tf i) : False := by
  unfold tf wf1 lnd stk at h
  omega
theorem tf_l1 {i : Nat} (h1 : lnd 1 i) (h : tf i) : False := by
  unfold tf wf1 stk at h
  unfold lnd at *
  omega
end PL1
section L1
variable {g G : Geo} {I : IM} {K : Option Value → Geo → IM → Prop} {c i : Nat}
theorem cs_told (hI : Inv c G g I) (hi : i + 6 ≤ G.1.2.1) (hl : G.1.2.1 ≤ 384) (kk : ∀ g' J, Inv (c + 1) G g' J → Rl 153 M_L_law 1495 (LL i) [] g' J K) : Rl 153 M_L_law 265 (LL i) [] g I K := by
  obtain ⟨N, M, So, Si, Pl, Th, He, Wt, T, n, tn, n2, tn2, w, z, kept, hH, hC, hM, hO⟩ := hI
  have G0 := hH.1
  have hg := hH.2.1
  obtain ⟨ok, okw, okk, oks, okh, okt, hw60, h1556⟩ := id hO
  have n14 : n ≤ 14 := ok.2.1
  have m14 : kept = true → n2 ≤ 14 := fun k => (okk k).1.2.1
  have a0 : isAg g 0 9 11 := ga G0 (by decide) rfl
  have a1 : isAg g 101 10 31 := ga G0 (by decide) rfl
  obtain ⟨c1, c2, c3, c4, c5, c6, c7⟩ := id hC
  unfold LL
  repeat' (first
    | ((first | refine T_aload_n (pc1 := 266) (pc := 265) k_L_law_265 rfl rfl ?_ | refine T_aload_nN (pc1 := 266) (pc := 265) k_L_law_265 rfl rfl ?_) <;> try ((first | refine T_aload_n (pc1 := 267) (pc := 266) k_L_law_266 rfl rfl ?_ | refine T_aload_nN (pc1 := 267) (pc := 266) k_L_law_266 rfl rfl ?_) <;> try (refine T_iload_n (pc1 := 268) (pc := 267) k_L_law_267 rfl rfl ?_ <;> try (refine T_iconst (v := (nI 1)) (pc1 := 269) (pc := 268) k_L_law_268 rfl (by decide) ?_ <;> try ((first | with_reducible refine T_iaddN (pc1 := 270) (pc := 269) k_L_law_269 (by decide) ?_ | refine T_iadd (pc1 := 270) (pc := 269) k_L_law_269 rfl ?_) <;> try (refine T_scN (pc1 := 271) (pc := 270) k_L_law_270 rfl (by assumption) (by omega) (by omega) ?_ <;> try ((first | refine T_aload_n (pc1 := 272) (pc := 271) k_L_law_271 rfl rfl ?_ | refine T_aload_nN (pc1 := 272) (pc := 271) k_L_law_271 rfl rfl ?_) <;> try (refine T_iload_n (pc1 := 273) (pc := 272) k_L_law_272 rfl rfl ?_ <;> try (refine T_iconst (v := (nI 2)) (pc1 := 274) (pc := 273) k_L_law_273 rfl (by decide) ?_ <;> try ((first | with_reducible refine T_iaddN (pc1 := 275) (pc := 274) k_L_law_274 (by decide) ?_ | refine T_iadd (pc1 := 275) (pc := 274) k_L_law_274 rfl ?_) <;> try (refine T_scN (pc1 := 276) (pc := 275) k_L_law_275 rfl (by assumption) (by omega) (by omega) ?_)))))))))))
    | refine T_aload_n (pc1 := 267) (pc := 266) k_L_law_266 rfl rfl ?_
    | refine T_aload_nN (pc1 := 267) (pc := 266) k_L_law_266 rfl rfl ?_
    | refine T_iload_n (pc1 := 268) (pc := 267) k_L_law_267 rfl rfl ?_
    | refine T_iconst (v := (nI 1)) (pc1 := 269) (pc := 268) k_L_law_268 rfl (by decide) ?_
    | with_reducible refine T_iaddN (pc1 := 270) (pc := 269) k_L_law_269 (by decide) ?_
    | refine T_iadd (pc1 := 270) (pc := 269) k_L_law_269 rfl ?_
    | refine T_scN (pc1 := 271) (pc := 270) k_L_law_270 rfl (by assumption) (by omega) (by omega) ?_
    | refine T_aload_n (pc1 := 272) (pc := 271) k_L_law_271 rfl rfl ?_
    | refine T_aload_nN (pc1 := 272) (pc := 271) k_L_law_271 rfl rfl ?_
    | refine T_iload_n (pc1 := 273) (pc := 272) k_L_law_272 rfl rfl ?_
    | refine T_iconst (v := (nI 2)) (pc1 := 274) (pc := 273) k_L_law_273 rfl (by decide) ?_
    | with_reducible refine T_iaddN (pc1 := 275) (pc := 274) k_L_law_274 (by decide) ?_
    | refine T_iadd (pc1 := 275) (pc := 274) k_L_law_274 rfl ?_
    | refine T_scN (pc1 := 276) (pc := 275) k_L_law_275 rfl (by assumption) (by omega) (by omega) ?_)
  (refine T_cV (As := [_, _]) (d1 := 5) (pc1 := 279) (pc := 276) k_L_law_276 rfl (by decide) (Nat.le_of_ble_eq_true rfl) rfl o_S_told l_L_18 rfl (by assumption) rfl (c_S_told G0 ok c1 fun J1 r1 f1 e1 => ?_) <;> try dsimp only [psh])
  have C1 := CI_fr (r := 43) hC m14 GS_rf (by omega) (by omega) f1 (fun i hi => stk_tf hi) (LR_fr (r := 43) c1 n14 GS_rf (by omega) (by omega) f1 (fun i h1 h2 => tf_l1 h1 ((stk_tf h2).resolve_left (by unfold lnd; unfold stk at h2; omega))) (fun i hi => tf_121 (stk_tf hi)))
  have M1 := MI_fr hM f1 (fun i h1 h2 h3 => tf_mod h1 h2 (stk_tf h3))
  obtain ⟨x102, x103, xk, xSo, xSi, xPl, xTh, xHe, xWt, xw, xT, xz⟩ := id M1
  repeat' (first
    | ((first | refine T_aload_n (pc1 := 280) (pc := 279) k_L_law_279 rfl rfl ?_ | refine T_aload_nN (pc1 := 280) (pc := 279) k_L_law_279 rfl rfl ?_) <;> try ((first | refine T_aload_n (pc1 := 281) (pc := 280) k_L_law_280 rfl rfl ?_ | refine T_aload_nN (pc1 := 281) (pc := 280) k_L_law_280 rfl rfl ?_) <;> try (refine T_iload_n (pc1 := 282) (pc := 281) k_L_law_281 rfl rfl ?_ <;> try (refine T_iconst (v := (nI 1)) (pc1 := 283) (pc := 282) k_L_law_282 rfl (by decide) ?_ <;> try ((first | with_reducible refine T_iaddN (pc1 := 284) (pc := 283) k_L_law_283 (by decide) ?_ | refine T_iadd (pc1 := 284) (pc := 283) k_L_law_283 rfl ?_) <;> try (refine T_scN (pc1 := 285) (pc := 284) k_L_law_284 rfl (by assumption) (by omega) (by omega) ?_ <;> try ((first | refine T_aload_n (pc1 := 286) (pc := 285) k_L_law_285 rfl rfl ?_ | refine T_aload_nN (pc1 := 286) (pc := 285) k_L_law_285 rfl rfl ?_) <;> try (refine T_iload_n (pc1 := 287) (pc := 286) k_L_law_286 rfl rfl ?_ <;> try (refine T_iconst (v := (nI 2)) (pc1 := 288) (pc := 287) k_L_law_287 rfl (by decide) ?_ <;> try ((first | with_reducible refine T_iaddN (pc1 := 289) (pc := 288) k_L_law_288 (by decide) ?_ | refine T_iadd (pc1 := 289) (pc := 288) k_L_law_288 rfl ?_) <;> try (refine T_scN (pc1 := 290) (pc := 289) k_L_law_289 rfl (by assumption) (by omega) (by omega) ?_)))))))))))
    | refine T_aload_n (pc1 := 281) (pc := 280) k_L_law_280 rfl rfl ?_
    | refine T_aload_nN (pc1 := 281) (pc := 280) k_L_law_280 rfl rfl ?_
    | refine T_iload_n (pc1 := 282) (pc := 281) k_L_law_281 rfl rfl ?_
    | refine T_iconst (v := (nI 1)) (pc1 := 283) (pc := 282) k_L_law_282 rfl (by decide) ?_
    | with_reducible refine T_iaddN (pc1 := 284) (pc := 283) k_L_law_283 (by decide) ?_
    | refine T_iadd (pc1 := 284) (pc := 283) k_L_law_283 rfl ?_
    | refine T_scN (pc1 := 285) (pc := 284) k_L_law_284 rfl (by assumption) (by omega) (by omega) ?_
    | refine T_aload_n (pc1 := 286) (pc := 285) k_L_law_285 rfl rfl ?_
    | refine T_aload_nN (pc1 := 286) (pc := 285) k_L_law_285 rfl rfl ?_
    | refine T_iload_n (pc1 := 287) (pc := 286) k_L_law_286 rfl rfl ?_
    | refine T_iconst (v := (nI 2)) (pc1 := 288) (pc := 287) k_L_law_287 rfl (by decide) ?_
    | with_reducible refine T_iaddN (pc1 := 289) (pc := 288) k_L_law_288 (by decide) ?_
    | refine T_iadd (pc1 := 289) (pc := 288) k_L_law_288 rfl ?_
    | refine T_scN (pc1 := 290) (pc := 289) k_L_law_289 rfl (by assumption) (by omega) (by omega) ?_)
  (refine T_cV (As := [_, _]) (d1 := 5) (pc1 := 293) (pc := 290) k_L_law_290 rfl (by decide) (Nat.le_of_ble_eq_true rfl) rfl o_M_told l_L_22 rfl (by assumption) rfl (c_M_told G0 x102 ok fun J2 r2 f2 e2 => ?_) <;> try dsimp only [psh])
  refine T_icmp_eq_t k_L_law_293 rfl (e1.trans e2.symm) ?_
  exact kk g J2 ⟨N, M, So, Si, Pl, Th, He, Wt, T, n, tn, n2, tn2, w, z, kept, HI_s hH, CI_mo C1 n14 m14 (eqx_fre f2 (by decide)), MI_q M1 f2 (by decide), hO⟩
theorem cs_fine (hI : Inv c G g I) (hi : i + 6 ≤ G.1.2.1) (hl : G.1.2.1 ≤ 384) (kk : ∀ g' J, Inv (c + 1) G g' J → Rl 153 M_L_law 1495 (LL i) [] g' J K) : Rl 153 M_L_law 895 (LL i) [] g I K := by
  obtain ⟨N, M, So, Si, Pl, Th, He, Wt, T, n, tn, n2, tn2, w, z, kept, hH, hC, hM, hO⟩ := hI
  have G0 := hH.1
  have hg := hH.2.1
  obtain ⟨ok, okw, okk, oks, okh, okt, hw60, h1556⟩ := id hO
  have n14 : n ≤ 14 := ok.2.1
  have m14 : kept = true → n2 ≤ 14 := fun k => (okk k).1.2.1
  have a0 : isAg g 0 9 11 := ga G0 (by decide) rfl
  have a1 : isAg g 101 10 31 := ga G0 (by decide) rfl
  obtain ⟨c1, c2, c3, c4, c5, c6, c7⟩ := id hC
  unfold LL
  repeat' (first
    | ((first | refine T_aload_n (pc1 := 896) (pc := 895) k_L_law_895 rfl rfl ?_ | refine T_aload_nN (pc1 := 896) (pc := 895) k_L_law_895 rfl rfl ?_)))
  (refine T_cV (As := []) (d1 := 4) (pc1 := 899) (pc := 896) k_L_law_896 rfl (by decide) (Nat.le_of_ble_eq_true rfl) rfl o_S_fine l_L_102 rfl (by assumption) rfl (c_S_fine G0 ok c1 fun J1 f1 => ?_) <;> try dsimp only [psh])
  have C1 := CI_fr (r := 43) hC m14 GS_rf (by omega) (by omega) f1 (fun i hi => stk_tf hi) (LR_fr (r := 43) c1 n14 GS_rf (by omega) (by omega) f1 (fun i h1 h2 => tf_l1 h1 ((stk_tf h2).resolve_left (by unfold lnd; unfold stk at h2; omega))) (fun i hi => tf_121 (stk_tf hi)))
  have M1 := MI_fr hM f1 (fun i h1 h2 h3 => tf_mod h1 h2 (stk_tf h3))
  obtain ⟨x102, x103, xk, xSo, xSi, xPl, xTh, xHe, xWt, xw, xT, xz⟩ := id M1
  repeat' (first
    | ((first | refine T_aload_n (pc1 := 900) (pc := 899) k_L_law_899 rfl rfl ?_ | refine T_aload_nN (pc1 := 900) (pc := 899) k_L_law_899 rfl rfl ?_)))
  (refine T_cV (As := []) (d1 := 3) (pc1 := 903) (pc := 900) k_L_law_900 rfl (by decide) (Nat.le_of_ble_eq_true rfl) rfl o_M_fine l_L_105 rfl (by assumption) rfl (c_M_fine G0 x102 ok fun J2 f2 => ?_) <;> try dsimp only [psh])
  refine T_icmp_eq_t k_L_law_903 rfl rfl ?_
  exact kk g J2 ⟨N, M, So, Si, Pl, Th, He, Wt, T, n, tn, n2, tn2, w, z, kept, HI_s hH, CI_mo C1 n14 m14 (eqx_fre f2 (by decide)), MI_q M1 f2 (by decide), hO⟩
theorem cs_wrong (hI : Inv c G g I) (hi : i + 6 ≤ G.1.2.1) (hl : G.1.2.1 ≤ 384) (kk : ∀ g' J, Inv (c + 1) G g' J → Rl 153 M_L_law 1495 (LL i) [] g' J K) : Rl 153 M_L_law 872 (LL i) [] g I K := by
  obtain ⟨N, M, So, Si, Pl, Th, He, Wt, T, n, tn, n2, tn2, w, z, kept, hH, hC, hM, hO⟩ := hI
  have G0 := hH.1
  have hg := hH.2.1
  obtain ⟨ok, okw, okk, oks, okh, okt, hw60, h1556⟩ := id hO
  have n14 : n ≤ 14 := ok.2.1
  have m14 : kept = true → n2 ≤ 14 := fun k => (okk k).1.2.1
  have a0 : isAg g 0 9 11 := ga G0 (by decide) rfl
  have a1 : isAg g 101 10 31 := ga G0 (by decide) rfl
  obtain ⟨c1, c2, c3, c4, c5, c6, c7⟩ := id hC
  unfold LL
  repeat' (first
    | ((first | refine T_aload_n (pc1 := 873) (pc := 872) k_L_law_872 rfl rfl ?_ | refine T_aload_nN (pc1 := 873) (pc := 872) k_L_law_872 rfl rfl ?_) <;> try ((first | refine T_aload_n (pc1 := 874) (pc := 873) k_L_law_873 rfl rfl ?_ | refine T_aload_nN (pc1 := 874) (pc := 873) k_L_law_873 rfl rfl ?_) <;> try (refine T_iload_n (pc1 := 875) (pc := 874) k_L_law_874 rfl rfl ?_ <;> try (refine T_iconst (v := (nI 1)) (pc1 := 876) (pc := 875) k_L_law_875 rfl (by decide) ?_ <;> try ((first | with_reducible refine T_iaddN (pc1 := 877) (pc := 876) k_L_law_876 (by decide) ?_ | refine T_iadd (pc1 := 877) (pc := 876) k_L_law_876 rfl ?_) <;> try (refine T_scN (pc1 := 878) (pc := 877) k_L_law_877 rfl (by assumption) (by omega) (by omega) ?_))))))
    | refine T_aload_n (pc1 := 874) (pc := 873) k_L_law_873 rfl rfl ?_
    | refine T_aload_nN (pc1 := 874) (pc := 873) k_L_law_873 rfl rfl ?_
    | refine T_iload_n (pc1 := 875) (pc := 874) k_L_law_874 rfl rfl ?_
    | refine T_iconst (v := (nI 1)) (pc1 := 876) (pc := 875) k_L_law_875 rfl (by decide) ?_
    | with_reducible refine T_iaddN (pc1 := 877) (pc := 876) k_L_law_876 (by decide) ?_
    | refine T_iadd (pc1 := 877) (pc := 876) k_L_law_876 rfl ?_
    | refine T_scN (pc1 := 878) (pc := 877) k_L_law_877 rfl (by assumption) (by omega) (by omega) ?_)
  (refine T_cV (As := [_]) (d1 := 5) (pc1 := 881) (pc := 878) k_L_law_878 rfl (by decide) (Nat.le_of_ble_eq_true rfl) rfl o_S_wrong l_L_98 rfl (by assumption) rfl (c_S_wrong G0 ok c1 oks c4 fun J1 r1 f1 e1 => ?_) <;> try dsimp only [psh])
  have C1 := CI_fr (r := 43) hC m14 GS_rf (by omega) (by omega) f1 (fun i hi => stk_tf hi) (LR_fr (r := 43) c1 n14 GS_rf (by omega) (by omega) f1 (fun i h1 h2 => tf_l1 h1 ((stk_tf h2).resolve_left (by unfold lnd; unfold stk at h2; omega))) (fun i hi => tf_121 (stk_tf hi)))
  have M1 := MI_fr hM f1 (fun i h1 h2 h3 => tf_mod h1 h2 (stk_tf h3))
  obtain ⟨x102, x103, xk, xSo, xSi, xPl, xTh, xHe, xWt, xw, xT, xz⟩ := id M1
  repeat' (first
    | ((first | refine T_aload_n (pc1 := 882) (pc := 881) k_L_law_881 rfl rfl ?_ | refine T_aload_nN (pc1 := 882) (pc := 881) k_L_law_881 rfl rfl ?_) <;> try ((first | refine T_aload_n (pc1 := 883) (pc := 882) k_L_law_882 rfl rfl ?_ | refine T_aload_nN (pc1 := 883) (pc := 882) k_L_law_882 rfl rfl ?_) <;> try (refine T_iload_n (pc1 := 884) (pc := 883) k_L_law_883 rfl rfl ?_ <;> try (refine T_iconst (v := (nI 1)) (pc1 := 885) (pc := 884) k_L_law_884 rfl (by decide) ?_ <;> try ((first | with_reducible refine T_iaddN (pc1 := 886) (pc := 885) k_L_law_885 (by decide) ?_ | refine T_iadd (pc1 := 886) (pc := 885) k_L_law_885 rfl ?_) <;> try (refine T_scN (pc1 := 887) (pc := 886) k_L_law_886 rfl (by assumption) (by omega) (by omega) ?_))))))
    | refine T_aload_n (pc1 := 883) (pc := 882) k_L_law_882 rfl rfl ?_
    | refine T_aload_nN (pc1 := 883) (pc := 882) k_L_law_882 rfl rfl ?_
    | refine T_iload_n (pc1 := 884) (pc := 883) k_L_law_883 rfl rfl ?_
    | refine T_iconst (v := (nI 1)) (pc1 := 885) (pc := 884) k_L_law_884 rfl (by decide) ?_
    | with_reducible refine T_iaddN (pc1 := 886) (pc := 885) k_L_law_885 (by decide) ?_
    | refine T_iadd (pc1 := 886) (pc := 885) k_L_law_885 rfl ?_
    | refine T_scN (pc1 := 887) (pc := 886) k_L_law_886 rfl (by assumption) (by omega) (by omega) ?_)
  (refine T_cV (As := [_]) (d1 := 5) (pc1 := 890) (pc := 887) k_L_law_887 rfl (by decide) (Nat.le_of_ble_eq_true rfl) rfl o_M_wrong l_L_101 rfl (by assumption) rfl (c_M_wrong G0 x102 ok xSo xSi xPl oks fun J2 r2 f2 e2 => ?_) <;> try dsimp only [psh])
  refine T_icmp_eq_t k_L_law_890 rfl (e1.trans e2.symm) ?_
  exact kk g J2 ⟨N, M, So, Si, Pl, Th, He, Wt, T, n, tn, n2, tn2, w, z, kept, HI_s hH, CI_mo C1 n14 m14 (eqx_fre f2 (by decide)), MI_q M1 f2 (by decide), hO⟩
theorem cs_best (hI : Inv c G g I) (hi : i + 6 ≤ G.1.2.1) (hl : G.1.2.1 ≤ 384) (kk : ∀ g' J, Inv (c + 1) G g' J → Rl 153 M_L_law 1495 (LL i) [] g' J K) : Rl 153 M_L_law 578 (LL i) [] g I K := by
  obtain ⟨N, M, So, Si, Pl, Th, He, Wt, T, n, tn, n2, tn2, w, z, kept, hH, hC, hM, hO⟩ := hI
  have G0 := hH.1
  have hg := hH.2.1
  obtain ⟨ok, okw, okk, oks, okh, okt, hw60, h1556⟩ := id hO
  have n14 : n ≤ 14 := ok.2.1
  have m14 : kept = true → n2 ≤ 14 := fun k => (okk k).1.2.1
  have a0 : isAg g 0 9 11 := ga G0 (by decide) rfl
  have a1 : isAg g 101 10 31 := ga G0 (by decide) rfl
  obtain ⟨c1, c2, c3, c4, c5, c6, c7⟩ := id hC
  unfold LL
  repeat' (first
    | ((first | refine T_aload_n (pc1 := 579) (pc := 578) k_L_law_578 rfl rfl ?_ | refine T_aload_nN (pc1 := 579) (pc := 578) k_L_law_578 rfl rfl ?_) <;> try ((first | refine T_aload_n (pc1 := 580) (pc := 579) k_L_law_579 rfl rfl ?_ | refine T_aload_nN (pc1 := 580) (pc := 579) k_L_law_579 rfl rfl ?_) <;> try (refine T_iload_n (pc1 := 581) (pc := 580) k_L_law_580 rfl rfl ?_ <;> try (refine T_iconst (v := (nI 1)) (pc1 := 582) (pc := 581) k_L_law_581 rfl (by decide) ?_ <;> try ((first | with_reducible refine T_iaddN (pc1 := 583) (pc := 582) k_L_law_582 (by decide) ?_ | refine T_iadd (pc1 := 583) (pc := 582) k_L_law_582 rfl ?_) <;> try (refine T_scN (pc1 := 584) (pc := 583) k_L_law_583 rfl (by assumption) (by omega) (by omega) ?_ <;> try ((first | refine T_aload_n (pc1 := 585) (pc := 584) k_L_law_584 rfl rfl ?_ | refine T_aload_nN (pc1 := 585) (pc := 584) k_L_law_584 rfl rfl ?_) <;> try (refine T_iload_n (pc1 := 586) (pc := 585) k_L_law_585 rfl rfl ?_ <;> try (refine T_iconst (v := (nI 2)) (pc1 := 587) (pc := 586) k_L_law_586 rfl (by decide) ?_ <;> try ((first | with_reducible refine T_iaddN (pc1 := 588) (pc := 587) k_L_law_587 (by decide) ?_ | refine T_iadd (pc1 := 588) (pc := 587) k_L_law_587 rfl ?_) <;> try (refine T_scN (pc1 := 589) (pc := 588) k_L_law_588 rfl (by assumption) (by omega) (by omega) ?_)))))))))))
    | refine T_aload_n (pc1 := 580) (pc := 579) k_L_law_579 rfl rfl ?_
    | refine T_aload_nN (pc1 := 580) (pc := 579) k_L_law_579 rfl rfl ?_
    | refine T_iload_n (pc1 := 581) (pc := 580) k_L_law_580 rfl rfl ?_
    | refine T_iconst (v := (nI 1)) (pc1 := 582) (pc := 581) k_L_law_581 rfl (by decide) ?_
    | with_reducible refine T_iaddN (pc1 := 583) (pc := 582) k_L_law_582 (by decide) ?_
    | refine T_iadd (pc1 := 583) (pc := 582) k_L_law_582 rfl ?_
    | refine T_scN (pc1 := 584) (pc := 583) k_L_law_583 rfl (by assumption) (by omega) (by omega) ?_
    | refine T_aload_n (pc1 := 585) (pc := 584) k_L_law_584 rfl rfl ?_
    | refine T_aload_nN (pc1 := 585) (pc := 584) k_L_law_584 rfl rfl ?_
    | refine T_iload_n (pc1 := 586) (pc := 585) k_L_law_585 rfl rfl ?_
    | refine T_iconst (v := (nI 2)) (pc1 := 587) (pc := 586) k_L_law_586 rfl (by decide) ?_
    | with_reducible refine T_iaddN (pc1 := 588) (pc := 587) k_L_law_587 (by decide) ?_
    | refine T_iadd (pc1 := 588) (pc := 587) k_L_law_587 rfl ?_
    | refine T_scN (pc1 := 589) (pc := 588) k_L_law_588 rfl (by assumption) (by omega) (by omega) ?_)
  (refine T_cV (As := [_, _]) (d1 := 7) (pc1 := 592) (pc := 589) k_L_law_589 rfl (by decide) (Nat.le_of_ble_eq_true rfl) rfl o_S_best l_L_66 rfl (by assumption) rfl (c_S_best G0 ok c1 fun J1 r1 f1 e1 => ?_) <;> try dsimp only [psh])
  have C1 := CI_fr (r := 43) hC m14 GS_rf (by omega) (by omega) f1 (fun i hi => ff_tf hi) (LR_fr (r := 43) c1 n14 GS_rf (by omega) (by omega) f1 (fun i h1 h2 => tf_l1 h1 ((ff_tf h2).resolve_left (by unfold lnd; unfold ff stk at h2; omega))) (fun i hi => tf_121 (ff_tf hi)))
  have M1 := MI_fr hM f1 (fun i h1 h2 h3 => tf_mod h1 h2 (ff_tf h3))
  obtain ⟨x102, x103, xk, xSo, xSi, xPl, xTh, xHe, xWt, xw, xT, xz⟩ := id M1
  repeat' (first
    | ((first | refine T_aload_n (pc1 := 593) (pc := 592) k_L_law_592 rfl rfl ?_ | refine T_aload_nN (pc1 := 593) (pc := 592) k_L_law_592 rfl rfl ?_) <;> try ((first | refine T_aload_n (pc1 := 594) (pc := 593) k_L_law_593 rfl rfl ?_ | refine T_aload_nN (pc1 := 594) (pc := 593) k_L_law_593 rfl rfl ?_) <;> try (refine T_iload_n (pc1 := 595) (pc := 594) k_L_law_594 rfl rfl ?_ <;> try (refine T_iconst (v := (nI 1)) (pc1 := 596) (pc := 595) k_L_law_595 rfl (by decide) ?_ <;> try ((first | with_reducible refine T_iaddN (pc1 := 597) (pc := 596) k_L_law_596 (by decide) ?_ | refine T_iadd (pc1 := 597) (pc := 596) k_L_law_596 rfl ?_) <;> try (refine T_scN (pc1 := 598) (pc := 597) k_L_law_597 rfl (by assumption) (by omega) (by omega) ?_ <;> try ((first | refine T_aload_n (pc1 := 599) (pc := 598) k_L_law_598 rfl rfl ?_ | refine T_aload_nN (pc1 := 599) (pc := 598) k_L_law_598 rfl rfl ?_) <;> try (refine T_iload_n (pc1 := 600) (pc := 599) k_L_law_599 rfl rfl ?_ <;> try (refine T_iconst (v := (nI 2)) (pc1 := 601) (pc := 600) k_L_law_600 rfl (by decide) ?_ <;> try ((first | with_reducible refine T_iaddN (pc1 := 602) (pc := 601) k_L_law_601 (by decide) ?_ | refine T_iadd (pc1 := 602) (pc := 601) k_L_law_601 rfl ?_) <;> try (refine T_scN (pc1 := 603) (pc := 602) k_L_law_602 rfl (by assumption) (by omega) (by omega) ?_)))))))))))
    | refine T_aload_n (pc1 := 594) (pc := 593) k_L_law_593 rfl rfl ?_
    | refine T_aload_nN (pc1 := 594) (pc := 593) k_L_law_593 rfl rfl ?_
    | refine T_iload_n (pc1 := 595) (pc := 594) k_L_law_594 rfl rfl ?_
    | refine T_iconst (v := (nI 1)) (pc1 := 596) (pc := 595) k_L_law_595 rfl (by decide) ?_
    | with_reducible refine T_iaddN (pc1 := 597) (pc := 596) k_L_law_596 (by decide) ?_
    | refine T_iadd (pc1 := 597) (pc := 596) k_L_law_596 rfl ?_
    | refine T_scN (pc1 := 598) (pc := 597) k_L_law_597 rfl (by assumption) (by omega) (by omega) ?_
    | refine T_aload_n (pc1 := 599) (pc := 598) k_L_law_598 rfl rfl ?_
    | refine T_aload_nN (pc1 := 599) (pc := 598) k_L_law_598 rfl rfl ?_
    | refine T_iload_n (pc1 := 600) (pc := 599) k_L_law_599 rfl rfl ?_
    | refine T_iconst (v := (nI 2)) (pc1 := 601) (pc := 600) k_L_law_600 rfl (by decide) ?_
    | with_reducible refine T_iaddN (pc1 := 602) (pc := 601) k_L_law_601 (by decide) ?_
    | refine T_iadd (pc1 := 602) (pc := 601) k_L_law_601 rfl ?_
    | refine T_scN (pc1 := 603) (pc := 602) k_L_law_602 rfl (by assumption) (by omega) (by omega) ?_)
  (refine T_cV (As := [_, _]) (d1 := 6) (pc1 := 606) (pc := 603) k_L_law_603 rfl (by decide) (Nat.le_of_ble_eq_true rfl) rfl o_M_best l_L_69 rfl (by assumption) rfl (c_M_best G0 x102 ok fun J2 r2 f2 e2 => ?_) <;> try dsimp only [psh])
  refine T_icmp_eq_t k_L_law_606 rfl (e1.trans e2.symm) ?_
  exact kk g J2 ⟨N, M, So, Si, Pl, Th, He, Wt, T, n, tn, n2, tn2, w, z, kept, HI_s hH, CI_mo C1 n14 m14 (eqx_fre f2 (by decide)), MI_q M1 f2 (by decide), hO⟩
theorem cs_wanted (hI : Inv c G g I) (hi : i + 6 ≤ G.1.2.1) (hl : G.1.2.1 ≤ 384) (kk : ∀ g' J, Inv (c + 1) G g' J → Rl 153 M_L_law 1495 (LL i) [] g' J K) : Rl 153 M_L_law 763 (LL i) [] g I K := by
  obtain ⟨N, M, So, Si, Pl, Th, He, Wt, T, n, tn, n2, tn2, w, z, kept, hH, hC, hM, hO⟩ := hI
  have G0 := hH.1
  have hg := hH.2.1
  obtain ⟨ok, okw, okk, oks, okh, okt, hw60, h1556⟩ := id hO
  have n14 : n ≤ 14 := ok.2.1
  have m14 : kept = true → n2 ≤ 14 := fun k => (okk k).1.2.1
  have a0 : isAg g 0 9 11 := ga G0 (by decide) rfl
  have a1 : isAg g 101 10 31 := ga G0 (by decide) rfl
  obtain ⟨c1, c2, c3, c4, c5, c6, c7⟩ := id hC
  unfold LL
  repeat' (first
    | ((first | refine T_aload_n (pc1 := 764) (pc := 763) k_L_law_763 rfl rfl ?_ | refine T_aload_nN (pc1 := 764) (pc := 763) k_L_law_763 rfl rfl ?_) <;> try ((first | refine T_aload_n (pc1 := 765) (pc := 764) k_L_law_764 rfl rfl ?_ | refine T_aload_nN (pc1 := 765) (pc := 764) k_L_law_764 rfl rfl ?_) <;> try (refine T_iload_n (pc1 := 766) (pc := 765) k_L_law_765 rfl rfl ?_ <;> try (refine T_iconst (v := (nI 1)) (pc1 := 767) (pc := 766) k_L_law_766 rfl (by decide) ?_ <;> try ((first | with_reducible refine T_iaddN (pc1 := 768) (pc := 767) k_L_law_767 (by decide) ?_ | refine T_iadd (pc1 := 768) (pc := 767) k_L_law_767 rfl ?_) <;> try (refine T_scN (pc1 := 769) (pc := 768) k_L_law_768 rfl (by assumption) (by omega) (by omega) ?_ <;> try ((first | refine T_aload_n (pc1 := 770) (pc := 769) k_L_law_769 rfl rfl ?_ | refine T_aload_nN (pc1 := 770) (pc := 769) k_L_law_769 rfl rfl ?_) <;> try (refine T_iload_n (pc1 := 771) (pc := 770) k_L_law_770 rfl rfl ?_ <;> try (refine T_iconst (v := (nI 2)) (pc1 := 772) (pc := 771) k_L_law_771 rfl (by decide) ?_ <;> try ((first | with_reducible refine T_iaddN (pc1 := 773) (pc := 772) k_L_law_772 (by decide) ?_ | refine T_iadd (pc1 := 773) (pc := 772) k_L_law_772 rfl ?_) <;> try (refine T_scN (pc1 := 774) (pc := 773) k_L_law_773 rfl (by assumption) (by omega) (by omega) ?_)))))))))))
    | refine T_aload_n (pc1 := 765) (pc := 764) k_L_law_764 rfl rfl ?_
    | refine T_aload_nN (pc1 := 765) (pc := 764) k_L_law_764 rfl rfl ?_
    | refine T_iload_n (pc1 := 766) (pc := 765) k_L_law_765 rfl rfl ?_
    | refine T_iconst (v := (nI 1)) (pc1 := 767) (pc := 766) k_L_law_766 rfl (by decide) ?_
    | with_reducible refine T_iaddN (pc1 := 768) (pc := 767) k_L_law_767 (by decide) ?_
    | refine T_iadd (pc1 := 768) (pc := 767) k_L_law_767 rfl ?_
    | refine T_scN (pc1 := 769) (pc := 768) k_L_law_768 rfl (by assumption) (by omega) (by omega) ?_
    | refine T_aload_n (pc1 := 770) (pc := 769) k_L_law_769 rfl rfl ?_
    | refine T_aload_nN (pc1 := 770) (pc := 769) k_L_law_769 rfl rfl ?_
    | refine T_iload_n (pc1 := 771) (pc := 770) k_L_law_770 rfl rfl ?_
    | refine T_iconst (v := (nI 2)) (pc1 := 772) (pc := 771) k_L_law_771 rfl (by decide) ?_
    | with_reducible refine T_iaddN (pc1 := 773) (pc := 772) k_L_law_772 (by decide) ?_
    | refine T_iadd (pc1 := 773) (pc := 772) k_L_law_772 rfl ?_
    | refine T_scN (pc1 := 774) (pc := 773) k_L_law_773 rfl (by assumption) (by omega) (by omega) ?_)
  (refine T_cV (As := [_, _]) (d1 := 7) (pc1 := 777) (pc := 774) k_L_law_774 rfl (by decide) (Nat.le_of_ble_eq_true rfl) rfl o_S_wanted l_L_86 rfl (by assumption) rfl (c_S_wanted G0 ok c1 fun J1 r1 f1 e1 => ?_) <;> try dsimp only [psh])
  have C1 := CI_fr (r := 43) hC m14 GS_rf (by omega) (by omega) f1 (fun i hi => ff_tf hi) (LR_fr (r := 43) c1 n14 GS_rf (by omega) (by omega) f1 (fun i h1 h2 => tf_l1 h1 ((ff_tf h2).resolve_left (by unfold lnd; unfold ff stk at h2; omega))) (fun i hi => tf_121 (ff_tf hi)))
  have M1 := MI_fr hM f1 (fun i h1 h2 h3 => tf_mod h1 h2 (ff_tf h3))
  obtain ⟨x102, x103, xk, xSo, xSi, xPl, xTh, xHe, xWt, xw, xT, xz⟩ := id M1
  repeat' (first
    | ((first | refine T_aload_n (pc1 := 778) (pc := 777) k_L_law_777 rfl rfl ?_ | refine T_aload_nN (pc1 := 778) (pc := 777) k_L_law_777 rfl rfl ?_) <;> try ((first | refine T_aload_n (pc1 := 779) (pc := 778) k_L_law_778 rfl rfl ?_ | refine T_aload_nN (pc1 := 779) (pc := 778) k_L_law_778 rfl rfl ?_) <;> try (refine T_iload_n (pc1 := 780) (pc := 779) k_L_law_779 rfl rfl ?_ <;> try (refine T_iconst (v := (nI 1)) (pc1 := 781) (pc := 780) k_L_law_780 rfl (by decide) ?_ <;> try ((first | with_reducible refine T_iaddN (pc1 := 782) (pc := 781) k_L_law_781 (by decide) ?_ | refine T_iadd (pc1 := 782) (pc := 781) k_L_law_781 rfl ?_) <;> try (refine T_scN (pc1 := 783) (pc := 782) k_L_law_782 rfl (by assumption) (by omega) (by omega) ?_ <;> try ((first | refine T_aload_n (pc1 := 784) (pc := 783) k_L_law_783 rfl rfl ?_ | refine T_aload_nN (pc1 := 784) (pc := 783) k_L_law_783 rfl rfl ?_) <;> try (refine T_iload_n (pc1 := 785) (pc := 784) k_L_law_784 rfl rfl ?_ <;> try (refine T_iconst (v := (nI 2)) (pc1 := 786) (pc := 785) k_L_law_785 rfl (by decide) ?_ <;> try ((first | with_reducible refine T_iaddN (pc1 := 787) (pc := 786) k_L_law_786 (by decide) ?_ | refine T_iadd (pc1 := 787) (pc := 786) k_L_law_786 rfl ?_) <;> try (refine T_scN (pc1 := 788) (pc := 787) k_L_law_787 rfl (by assumption) (by omega) (by omega) ?_)))))))))))
    | refine T_aload_n (pc1 := 779) (pc := 778) k_L_law_778 rfl rfl ?_
    | refine T_aload_nN (pc1 := 779) (pc := 778) k_L_law_778 rfl rfl ?_
    | refine T_iload_n (pc1 := 780) (pc := 779) k_L_law_779 rfl rfl ?_
    | refine T_iconst (v := (nI 1)) (pc1 := 781) (pc := 780) k_L_law_780 rfl (by decide) ?_
    | with_reducible refine T_iaddN (pc1 := 782) (pc := 781) k_L_law_781 (by decide) ?_
    | refine T_iadd (pc1 := 782) (pc := 781) k_L_law_781 rfl ?_
    | refine T_scN (pc1 := 783) (pc := 782) k_L_law_782 rfl (by assumption) (by omega) (by omega) ?_
    | refine T_aload_n (pc1 := 784) (pc := 783) k_L_law_783 rfl rfl ?_
    | refine T_aload_nN (pc1 := 784) (pc := 783) k_L_law_783 rfl rfl ?_
    | refine T_iload_n (pc1 := 785) (pc := 784) k_L_law_784 rfl rfl ?_
    | refine T_iconst (v := (nI 2)) (pc1 := 786) (pc := 785) k_L_law_785 rfl (by decide) ?_
    | with_reducible refine T_iaddN (pc1 := 787) (pc := 786) k_L_law_786 (by decide) ?_
    | refine T_iadd (pc1 := 787) (pc := 786) k_L_law_786 rfl ?_
    | refine T_scN (pc1 := 788) (pc := 787) k_L_law_787 rfl (by assumption) (by omega) (by omega) ?_)
  (refine T_cV (As := [_, _]) (d1 := 6) (pc1 := 791) (pc := 788) k_L_law_788 rfl (by decide) (Nat.le_of_ble_eq_true rfl) rfl o_M_wanted l_L_89 rfl (by assumption) rfl (c_M_wanted G0 x102 ok fun J2 r2 f2 e2 => ?_) <;> try dsimp only [psh])
  refine T_icmp_eq_t k_L_law_791 rfl (e1.trans e2.symm) ?_
  exact kk g J2 ⟨N, M, So, Si, Pl, Th, He, Wt, T, n, tn, n2, tn2, w, z, kept, HI_s hH, CI_mo C1 n14 m14 (eqx_fre f2 (by decide)), MI_q M1 f2 (by decide), hO⟩
theorem cs_reach (hI : Inv c G g I) (hi : i + 6 ≤ G.1.2.1) (hl : G.1.2.1 ≤ 384) (kk : ∀ g' J, Inv (c + 1) G g' J → Rl 153 M_L_law 1495 (LL i) [] g' J K) : Rl 153 M_L_law 796 (LL i) [] g I K := by
  obtain ⟨N, M, So, Si, Pl, Th, He, Wt, T, n, tn, n2, tn2, w, z, kept, hH, hC, hM, hO⟩ := hI
  have G0 := hH.1
  have hg := hH.2.1
  obtain ⟨ok, okw, okk, oks, okh, okt, hw60, h1556⟩ := id hO
  have n14 : n ≤ 14 := ok.2.1
  have m14 : kept = true → n2 ≤ 14 := fun k => (okk k).1.2.1
  have a0 : isAg g 0 9 11 := ga G0 (by decide) rfl
  have a1 : isAg g 101 10 31 := ga G0 (by decide) rfl
  obtain ⟨c1, c2, c3, c4, c5, c6, c7⟩ := id hC
  unfold LL
  repeat' (first
    | ((first | refine T_aload_n (pc1 := 797) (pc := 796) k_L_law_796 rfl rfl ?_ | refine T_aload_nN (pc1 := 797) (pc := 796) k_L_law_796 rfl rfl ?_) <;> try ((first | refine T_aload_n (pc1 := 798) (pc := 797) k_L_law_797 rfl rfl ?_ | refine T_aload_nN (pc1 := 798) (pc := 797) k_L_law_797 rfl rfl ?_) <;> try (refine T_iload_n (pc1 := 799) (pc := 798) k_L_law_798 rfl rfl ?_ <;> try (refine T_iconst (v := (nI 1)) (pc1 := 800) (pc := 799) k_L_law_799 rfl (by decide) ?_ <;> try ((first | with_reducible refine T_iaddN (pc1 := 801) (pc := 800) k_L_law_800 (by decide) ?_ | refine T_iadd (pc1 := 801) (pc := 800) k_L_law_800 rfl ?_) <;> try (refine T_scN (pc1 := 802) (pc := 801) k_L_law_801 rfl (by assumption) (by omega) (by omega) ?_ <;> try ((first | refine T_aload_n (pc1 := 803) (pc := 802) k_L_law_802 rfl rfl ?_ | refine T_aload_nN (pc1 := 803) (pc := 802) k_L_law_802 rfl rfl ?_) <;> try (refine T_iload_n (pc1 := 804) (pc := 803) k_L_law_803 rfl rfl ?_ <;> try (refine T_iconst (v := (nI 2)) (pc1 := 805) (pc := 804) k_L_law_804 rfl (by decide) ?_ <;> try ((first | with_reducible refine T_iaddN (pc1 := 806) (pc := 805) k_L_law_805 (by decide) ?_ | refine T_iadd (pc1 := 806) (pc := 805) k_L_law_805 rfl ?_) <;> try (refine T_scN (pc1 := 807) (pc := 806) k_L_law_806 rfl (by assumption) (by omega) (by omega) ?_)))))))))))
    | refine T_aload_n (pc1 := 798) (pc := 797) k_L_law_797 rfl rfl ?_
    | refine T_aload_nN (pc1 := 798) (pc := 797) k_L_law_797 rfl rfl ?_
    | refine T_iload_n (pc1 := 799) (pc := 798) k_L_law_798 rfl rfl ?_
    | refine T_iconst (v := (nI 1)) (pc1 := 800) (pc := 799) k_L_law_799 rfl (by decide) ?_
    | with_reducible refine T_iaddN (pc1 := 801) (pc := 800) k_L_law_800 (by decide) ?_
    | refine T_iadd (pc1 := 801) (pc := 800) k_L_law_800 rfl ?_
    | refine T_scN (pc1 := 802) (pc := 801) k_L_law_801 rfl (by assumption) (by omega) (by omega) ?_
    | refine T_aload_n (pc1 := 803) (pc := 802) k_L_law_802 rfl rfl ?_
    | refine T_aload_nN (pc1 := 803) (pc := 802) k_L_law_802 rfl rfl ?_
    | refine T_iload_n (pc1 := 804) (pc := 803) k_L_law_803 rfl rfl ?_
    | refine T_iconst (v := (nI 2)) (pc1 := 805) (pc := 804) k_L_law_804 rfl (by decide) ?_
    | with_reducible refine T_iaddN (pc1 := 806) (pc := 805) k_L_law_805 (by decide) ?_
    | refine T_iadd (pc1 := 806) (pc := 805) k_L_law_805 rfl ?_
    | refine T_scN (pc1 := 807) (pc := 806) k_L_law_806 rfl (by assumption) (by omega) (by omega) ?_)
  (refine T_cV (As := [_, _]) (d1 := 7) (pc1 := 810) (pc := 807) k_L_law_807 rfl (by decide) (Nat.le_of_ble_eq_true rfl) rfl o_S_reach l_L_90 rfl (by assumption) rfl (c_S_reach G0 ok c1 fun J1 r1 f1 e1 => ?_) <;> try dsimp only [psh])
  have C1 := CI_fr (r := 43) hC m14 GS_rf (by omega) (by omega) f1 (fun i hi => ff_tf hi) (LR_fr (r := 43) c1 n14 GS_rf (by omega) (by omega) f1 (fun i h1 h2 => tf_l1 h1 ((ff_tf h2).resolve_left (by unfold lnd; unfold ff stk at h2; omega))) (fun i hi => tf_121 (ff_tf hi)))
  have M1 := MI_fr hM f1 (fun i h1 h2 h3 => tf_mod h1 h2 (ff_tf h3))
  obtain ⟨x102, x103, xk, xSo, xSi, xPl, xTh, xHe, xWt, xw, xT, xz⟩ := id M1
  repeat' (first
    | ((first | refine T_aload_n (pc1 := 811) (pc := 810) k_L_law_810 rfl rfl ?_ | refine T_aload_nN (pc1 := 811) (pc := 810) k_L_law_810 rfl rfl ?_) <;> try ((first | refine T_aload_n (pc1 := 812) (pc := 811) k_L_law_811 rfl rfl ?_ | refine T_aload_nN (pc1 := 812) (pc := 811) k_L_law_811 rfl rfl ?_) <;> try (refine T_iload_n (pc1 := 813) (pc := 812) k_L_law_812 rfl rfl ?_ <;> try (refine T_iconst (v := (nI 1)) (pc1 := 814) (pc := 813) k_L_law_813 rfl (by decide) ?_ <;> try ((first | with_reducible refine T_iaddN (pc1 := 815) (pc := 814) k_L_law_814 (by decide) ?_ | refine T_iadd (pc1 := 815) (pc := 814) k_L_law_814 rfl ?_) <;> try (refine T_scN (pc1 := 816) (pc := 815) k_L_law_815 rfl (by assumption) (by omega) (by omega) ?_ <;> try ((first | refine T_aload_n (pc1 := 817) (pc := 816) k_L_law_816 rfl rfl ?_ | refine T_aload_nN (pc1 := 817) (pc := 816) k_L_law_816 rfl rfl ?_) <;> try (refine T_iload_n (pc1 := 818) (pc := 817) k_L_law_817 rfl rfl ?_ <;> try (refine T_iconst (v := (nI 2)) (pc1 := 819) (pc := 818) k_L_law_818 rfl (by decide) ?_ <;> try ((first | with_reducible refine T_iaddN (pc1 := 820) (pc := 819) k_L_law_819 (by decide) ?_ | refine T_iadd (pc1 := 820) (pc := 819) k_L_law_819 rfl ?_) <;> try (refine T_scN (pc1 := 821) (pc := 820) k_L_law_820 rfl (by assumption) (by omega) (by omega) ?_)))))))))))
    | refine T_aload_n (pc1 := 812) (pc := 811) k_L_law_811 rfl rfl ?_
    | refine T_aload_nN (pc1 := 812) (pc := 811) k_L_law_811 rfl rfl ?_
    | refine T_iload_n (pc1 := 813) (pc := 812) k_L_law_812 rfl rfl ?_
    | refine T_iconst (v := (nI 1)) (pc1 := 814) (pc := 813) k_L_law_813 rfl (by decide) ?_
    | with_reducible refine T_iaddN (pc1 := 815) (pc := 814) k_L_law_814 (by decide) ?_
    | refine T_iadd (pc1 := 815) (pc := 814) k_L_law_814 rfl ?_
    | refine T_scN (pc1 := 816) (pc := 815) k_L_law_815 rfl (by assumption) (by omega) (by omega) ?_
    | refine T_aload_n (pc1 := 817) (pc := 816) k_L_law_816 rfl rfl ?_
    | refine T_aload_nN (pc1 := 817) (pc := 816) k_L_law_816 rfl rfl ?_
    | refine T_iload_n (pc1 := 818) (pc := 817) k_L_law_817 rfl rfl ?_
    | refine T_iconst (v := (nI 2)) (pc1 := 819) (pc := 818) k_L_law_818 rfl (by decide) ?_
    | with_reducible refine T_iaddN (pc1 := 820) (pc := 819) k_L_law_819 (by decide) ?_
    | refine T_iadd (pc1 := 820) (pc := 819) k_L_law_819 rfl ?_
    | refine T_scN (pc1 := 821) (pc := 820) k_L_law_820 rfl (by assumption) (by omega) (by omega) ?_)
  (refine T_cV (As := [_, _]) (d1 := 6) (pc1 := 824) (pc := 821) k_L_law_821 rfl (by decide) (Nat.le_of_ble_eq_true rfl) rfl o_M_reach l_L_93 rfl (by assumption) rfl (c_M_reach G0 x102 ok fun J2 r2 f2 e2 => ?_) <;> try dsimp only [psh])
  refine T_icmp_eq_t k_L_law_824 rfl (e1.trans e2.symm) ?_
  exact kk g J2 ⟨N, M, So, Si, Pl, Th, He, Wt, T, n, tn, n2, tn2, w, z, kept, HI_s hH, CI_mo C1 n14 m14 (eqx_fre f2 (by decide)), MI_q M1 f2 (by decide), hO⟩
theorem cs_as (hI : Inv c G g I) (hi : i + 6 ≤ G.1.2.1) (hl : G.1.2.1 ≤ 384) (kk : ∀ g' J, Inv (c + 1) G g' J → Rl 153 M_L_law 1495 (LL i) [] g' J K) : Rl 153 M_L_law 298 (LL i) [] g I K := by
  obtain ⟨N, M, So, Si, Pl, Th, He, Wt, T, n, tn, n2, tn2, w, z, kept, hH, hC, hM, hO⟩ := hI
  have G0 := hH.1
  have hg := hH.2.1
  obtain ⟨ok, okw, okk, oks, okh, okt, hw60, h1556⟩ := id hO
  have n14 : n ≤ 14 := ok.2.1
  have m14 : kept = true → n2 ≤ 14 := fun k => (okk k).1.2.1
  have a0 : isAg g 0 9 11 := ga G0 (by decide) rfl
  have a1 : isAg g 101 10 31 := ga G0 (by decide) rfl
  obtain ⟨c1, c2, c3, c4, c5, c6, c7⟩ := id hC
  unfold LL
  repeat' (first
    | ((first | refine T_aload_n (pc1 := 299) (pc := 298) k_L_law_298 rfl rfl ?_ | refine T_aload_nN (pc1 := 299) (pc := 298) k_L_law_298 rfl rfl ?_) <;> try ((first | refine T_aload_n (pc1 := 300) (pc := 299) k_L_law_299 rfl rfl ?_ | refine T_aload_nN (pc1 := 300) (pc := 299) k_L_law_299 rfl rfl ?_) <;> try (refine T_iload_n (pc1 := 301) (pc := 300) k_L_law_300 rfl rfl ?_ <;> try (refine T_iconst (v := (nI 1)) (pc1 := 302) (pc := 301) k_L_law_301 rfl (by decide) ?_ <;> try ((first | with_reducible refine T_iaddN (pc1 := 303) (pc := 302) k_L_law_302 (by decide) ?_ | refine T_iadd (pc1 := 303) (pc := 302) k_L_law_302 rfl ?_) <;> try (refine T_scN (pc1 := 304) (pc := 303) k_L_law_303 rfl (by assumption) (by omega) (by omega) ?_ <;> try ((first | refine T_aload_n (pc1 := 305) (pc := 304) k_L_law_304 rfl rfl ?_ | refine T_aload_nN (pc1 := 305) (pc := 304) k_L_law_304 rfl rfl ?_) <;> try (refine T_iload_n (pc1 := 306) (pc := 305) k_L_law_305 rfl rfl ?_ <;> try (refine T_iconst (v := (nI 2)) (pc1 := 307) (pc := 306) k_L_law_306 rfl (by decide) ?_ <;> try ((first | with_reducible refine T_iaddN (pc1 := 308) (pc := 307) k_L_law_307 (by decide) ?_ | refine T_iadd (pc1 := 308) (pc := 307) k_L_law_307 rfl ?_) <;> try (refine T_scN (pc1 := 309) (pc := 308) k_L_law_308 rfl (by assumption) (by omega) (by omega) ?_)))))))))))
    | refine T_aload_n (pc1 := 300) (pc := 299) k_L_law_299 rfl rfl ?_
    | refine T_aload_nN (pc1 := 300) (pc := 299) k_L_law_299 rfl rfl ?_
    | refine T_iload_n (pc1 := 301) (pc := 300) k_L_law_300 rfl rfl ?_
    | refine T_iconst (v := (nI 1)) (pc1 := 302) (pc := 301) k_L_law_301 rfl (by decide) ?_
    | with_reducible refine T_iaddN (pc1 := 303) (pc := 302) k_L_law_302 (by decide) ?_
    | refine T_iadd (pc1 := 303) (pc := 302) k_L_law_302 rfl ?_
    | refine T_scN (pc1 := 304) (pc := 303) k_L_law_303 rfl (by assumption) (by omega) (by omega) ?_
    | refine T_aload_n (pc1 := 305) (pc := 304) k_L_law_304 rfl rfl ?_
    | refine T_aload_nN (pc1 := 305) (pc := 304) k_L_law_304 rfl rfl ?_
    | refine T_iload_n (pc1 := 306) (pc := 305) k_L_law_305 rfl rfl ?_
    | refine T_iconst (v := (nI 2)) (pc1 := 307) (pc := 306) k_L_law_306 rfl (by decide) ?_
    | with_reducible refine T_iaddN (pc1 := 308) (pc := 307) k_L_law_307 (by decide) ?_
    | refine T_iadd (pc1 := 308) (pc := 307) k_L_law_307 rfl ?_
    | refine T_scN (pc1 := 309) (pc := 308) k_L_law_308 rfl (by assumption) (by omega) (by omega) ?_)
  obtain ⟨x102, x103, xk, xSo, xSi, xPl, xTh, xHe, xWt, xw, xT, xz⟩ := id hM
  (refine T_cV (As := [_, _]) (d1 := 3) (pc1 := 312) (pc := 309) k_L_law_309 rfl (by decide) (Nat.le_of_ble_eq_true rfl) rfl o_S_as l_L_23 rfl (by assumption) rfl (c_S_as G0 ok c1 fun r1 e1 => ?_) <;> try dsimp only [psh])
  repeat' (first
    | ((first | refine T_aload_n (pc1 := 313) (pc := 312) k_L_law_312 rfl rfl ?_ | refine T_aload_nN (pc1 := 313) (pc := 312) k_L_law_312 rfl rfl ?_) <;> try ((first | refine T_aload_n (pc1 := 314) (pc := 313) k_L_law_313 rfl rfl ?_ | refine T_aload_nN (pc1 := 314) (pc := 313) k_L_law_313 rfl rfl ?_) <;> try (refine T_iload_n (pc1 := 315) (pc := 314) k_L_law_314 rfl rfl ?_ <;> try (refine T_iconst (v := (nI 1)) (pc1 := 316) (pc := 315) k_L_law_315 rfl (by decide) ?_ <;> try ((first | with_reducible refine T_iaddN (pc1 := 317) (pc := 316) k_L_law_316 (by decide) ?_ | refine T_iadd (pc1 := 317) (pc := 316) k_L_law_316 rfl ?_) <;> try (refine T_scN (pc1 := 318) (pc := 317) k_L_law_317 rfl (by assumption) (by omega) (by omega) ?_ <;> try ((first | refine T_aload_n (pc1 := 319) (pc := 318) k_L_law_318 rfl rfl ?_ | refine T_aload_nN (pc1 := 319) (pc := 318) k_L_law_318 rfl rfl ?_) <;> try (refine T_iload_n (pc1 := 320) (pc := 319) k_L_law_319 rfl rfl ?_ <;> try (refine T_iconst (v := (nI 2)) (pc1 := 321) (pc := 320) k_L_law_320 rfl (by decide) ?_ <;> try ((first | with_reducible refine T_iaddN (pc1 := 322) (pc := 321) k_L_law_321 (by decide) ?_ | refine T_iadd (pc1 := 322) (pc := 321) k_L_law_321 rfl ?_) <;> try (refine T_scN (pc1 := 323) (pc := 322) k_L_law_322 rfl (by assumption) (by omega) (by omega) ?_)))))))))))
    | refine T_aload_n (pc1 := 314) (pc := 313) k_L_law_313 rfl rfl ?_
    | refine T_aload_nN (pc1 := 314) (pc := 313) k_L_law_313 rfl rfl ?_
    | refine T_iload_n (pc1 := 315) (pc := 314) k_L_law_314 rfl rfl ?_
    | refine T_iconst (v := (nI 1)) (pc1 := 316) (pc := 315) k_L_law_315 rfl (by decide) ?_
    | with_reducible refine T_iaddN (pc1 := 317) (pc := 316) k_L_law_316 (by decide) ?_
    | refine T_iadd (pc1 := 317) (pc := 316) k_L_law_316 rfl ?_
    | refine T_scN (pc1 := 318) (pc := 317) k_L_law_317 rfl (by assumption) (by omega) (by omega) ?_
    | refine T_aload_n (pc1 := 319) (pc := 318) k_L_law_318 rfl rfl ?_
    | refine T_aload_nN (pc1 := 319) (pc := 318) k_L_law_318 rfl rfl ?_
    | refine T_iload_n (pc1 := 320) (pc := 319) k_L_law_319 rfl rfl ?_
    | refine T_iconst (v := (nI 2)) (pc1 := 321) (pc := 320) k_L_law_320 rfl (by decide) ?_
    | with_reducible refine T_iaddN (pc1 := 322) (pc := 321) k_L_law_321 (by decide) ?_
    | refine T_iadd (pc1 := 322) (pc := 321) k_L_law_321 rfl ?_
    | refine T_scN (pc1 := 323) (pc := 322) k_L_law_322 rfl (by assumption) (by omega) (by omega) ?_)
  (refine T_cV (As := [_, _]) (d1 := 3) (pc1 := 326) (pc := 323) k_L_law_323 rfl (by decide) (Nat.le_of_ble_eq_true rfl) rfl o_M_as l_L_26 rfl (by assumption) rfl (c_M_as G0 x102 ok fun r2 e2 => ?_) <;> try dsimp only [psh])
  refine T_icmp_eq_t k_L_law_326 rfl (e1.trans e2.symm) ?_
  exact kk g I ⟨N, M, So, Si, Pl, Th, He, Wt, T, n, tn, n2, tn2, w, z, kept, HI_s hH, hC, hM, hO⟩
theorem cs_textTold (hI : Inv c G g I) (hi : i + 6 ≤ G.1.2.1) (hl : G.1.2.1 ≤ 384) (kk : ∀ g' J, Inv (c + 1) G g' J → Rl 153 M_L_law 1495 (LL i) [] g' J K) : Rl 153 M_L_law 987 (LL i) [] g I K := by
  obtain ⟨N, M, So, Si, Pl, Th, He, Wt, T, n, tn, n2, tn2, w, z, kept, hH, hC, hM, hO⟩ := hI
  have G0 := hH.1
  have hg := hH.2.1
  obtain ⟨ok, okw, okk, oks, okh, okt, hw60, h1556⟩ := id hO
  have n14 : n ≤ 14 := ok.2.1
  have m14 : kept = true → n2 ≤ 14 := fun k => (okk k).1.2.1
  have a0 : isAg g 0 9 11 := ga G0 (by decide) rfl
  have a1 : isAg g 101 10 31 := ga G0 (by decide) rfl
  obtain ⟨c1, c2, c3, c4, c5, c6, c7⟩ := id hC
  unfold LL
  repeat' (first
    | ((first | refine T_aload_n (pc1 := 988) (pc := 987) k_L_law_987 rfl rfl ?_ | refine T_aload_nN (pc1 := 988) (pc := 987) k_L_law_987 rfl rfl ?_) <;> try ((first | refine T_aload_n (pc1 := 989) (pc := 988) k_L_law_988 rfl rfl ?_ | refine T_aload_nN (pc1 := 989) (pc := 988) k_L_law_988 rfl rfl ?_) <;> try (refine T_iload_n (pc1 := 990) (pc := 989) k_L_law_989 rfl rfl ?_ <;> try (refine T_iconst (v := (nI 1)) (pc1 := 991) (pc := 990) k_L_law_990 rfl (by decide) ?_ <;> try ((first | with_reducible refine T_iaddN (pc1 := 992) (pc := 991) k_L_law_991 (by decide) ?_ | refine T_iadd (pc1 := 992) (pc := 991) k_L_law_991 rfl ?_) <;> try (refine T_scN (pc1 := 993) (pc := 992) k_L_law_992 rfl (by assumption) (by omega) (by omega) ?_ <;> try ((first | refine T_aload_n (pc1 := 994) (pc := 993) k_L_law_993 rfl rfl ?_ | refine T_aload_nN (pc1 := 994) (pc := 993) k_L_law_993 rfl rfl ?_) <;> try (refine T_iload_n (pc1 := 995) (pc := 994) k_L_law_994 rfl rfl ?_ <;> try (refine T_iconst (v := (nI 2)) (pc1 := 996) (pc := 995) k_L_law_995 rfl (by decide) ?_ <;> try ((first | with_reducible refine T_iaddN (pc1 := 997) (pc := 996) k_L_law_996 (by decide) ?_ | refine T_iadd (pc1 := 997) (pc := 996) k_L_law_996 rfl ?_) <;> try (refine T_scN (pc1 := 998) (pc := 997) k_L_law_997 rfl (by assumption) (by omega) (by omega) ?_)))))))))))
    | refine T_aload_n (pc1 := 989) (pc := 988) k_L_law_988 rfl rfl ?_
    | refine T_aload_nN (pc1 := 989) (pc := 988) k_L_law_988 rfl rfl ?_
    | refine T_iload_n (pc1 := 990) (pc := 989) k_L_law_989 rfl rfl ?_
    | refine T_iconst (v := (nI 1)) (pc1 := 991) (pc := 990) k_L_law_990 rfl (by decide) ?_
    | with_reducible refine T_iaddN (pc1 := 992) (pc := 991) k_L_law_991 (by decide) ?_
    | refine T_iadd (pc1 := 992) (pc := 991) k_L_law_991 rfl ?_
    | refine T_scN (pc1 := 993) (pc := 992) k_L_law_992 rfl (by assumption) (by omega) (by omega) ?_
    | refine T_aload_n (pc1 := 994) (pc := 993) k_L_law_993 rfl rfl ?_
    | refine T_aload_nN (pc1 := 994) (pc := 993) k_L_law_993 rfl rfl ?_
    | refine T_iload_n (pc1 := 995) (pc := 994) k_L_law_994 rfl rfl ?_
    | refine T_iconst (v := (nI 2)) (pc1 := 996) (pc := 995) k_L_law_995 rfl (by decide) ?_
    | with_reducible refine T_iaddN (pc1 := 997) (pc := 996) k_L_law_996 (by decide) ?_
    | refine T_iadd (pc1 := 997) (pc := 996) k_L_law_996 rfl ?_
    | refine T_scN (pc1 := 998) (pc := 997) k_L_law_997 rfl (by assumption) (by omega) (by omega) ?_)
  obtain ⟨x102, x103, xk, xSo, xSi, xPl, xTh, xHe, xWt, xw, xT, xz⟩ := id hM
  (refine T_cV (As := [_, _]) (d1 := 3) (pc1 := 1001) (pc := 998) k_L_law_998 rfl (by decide) (Nat.le_of_ble_eq_true rfl) rfl o_S_textTold l_L_118 rfl (by assumption) rfl (c_S_textTold G0 ok c1 fun r1 e1 => ?_) <;> try dsimp only [psh])
  repeat' (first
    | ((first | refine T_aload_n (pc1 := 1002) (pc := 1001) k_L_law_1001 rfl rfl ?_ | refine T_aload_nN (pc1 := 1002) (pc := 1001) k_L_law_1001 rfl rfl ?_) <;> try ((first | refine T_aload_n (pc1 := 1003) (pc := 1002) k_L_law_1002 rfl rfl ?_ | refine T_aload_nN (pc1 := 1003) (pc := 1002) k_L_law_1002 rfl rfl ?_) <;> try (refine T_iload_n (pc1 := 1004) (pc := 1003) k_L_law_1003 rfl rfl ?_ <;> try (refine T_iconst (v := (nI 1)) (pc1 := 1005) (pc := 1004) k_L_law_1004 rfl (by decide) ?_ <;> try ((first | with_reducible refine T_iaddN (pc1 := 1006) (pc := 1005) k_L_law_1005 (by decide) ?_ | refine T_iadd (pc1 := 1006) (pc := 1005) k_L_law_1005 rfl ?_) <;> try (refine T_scN (pc1 := 1007) (pc := 1006) k_L_law_1006 rfl (by assumption) (by omega) (by omega) ?_ <;> try ((first | refine T_aload_n (pc1 := 1008) (pc := 1007) k_L_law_1007 rfl rfl ?_ | refine T_aload_nN (pc1 := 1008) (pc := 1007) k_L_law_1007 rfl rfl ?_) <;> try (refine T_iload_n (pc1 := 1009) (pc := 1008) k_L_law_1008 rfl rfl ?_ <;> try (refine T_iconst (v := (nI 2)) (pc1 := 1010) (pc := 1009) k_L_law_1009 rfl (by decide) ?_ <;> try ((first | with_reducible refine T_iaddN (pc1 := 1011) (pc := 1010) k_L_law_1010 (by decide) ?_ | refine T_iadd (pc1 := 1011) (pc := 1010) k_L_law_1010 rfl ?_) <;> try (refine T_scN (pc1 := 1012) (pc := 1011) k_L_law_1011 rfl (by assumption) (by omega) (by omega) ?_)))))))))))
    | refine T_aload_n (pc1 := 1003) (pc := 1002) k_L_law_1002 rfl rfl ?_
    | refine T_aload_nN (pc1 := 1003) (pc := 1002) k_L_law_1002 rfl rfl ?_
    | refine T_iload_n (pc1 := 1004) (pc := 1003) k_L_law_1003 rfl rfl ?_
    | refine T_iconst (v := (nI 1)) (pc1 := 1005) (pc := 1004) k_L_law_1004 rfl (by decide) ?_
    | with_reducible refine T_iaddN (pc1 := 1006) (pc := 1005) k_L_law_1005 (by decide) ?_
    | refine T_iadd (pc1 := 1006) (pc := 1005) k_L_law_1005 rfl ?_
    | refine T_scN (pc1 := 1007) (pc := 1006) k_L_law_1006 rfl (by assumption) (by omega) (by omega) ?_
    | refine T_aload_n (pc1 := 1008) (pc := 1007) k_L_law_1007 rfl rfl ?_
    | refine T_aload_nN (pc1 := 1008) (pc := 1007) k_L_law_1007 rfl rfl ?_
    | refine T_iload_n (pc1 := 1009) (pc := 1008) k_L_law_1008 rfl rfl ?_
    | refine T_iconst (v := (nI 2)) (pc1 := 1010) (pc := 1009) k_L_law_1009 rfl (by decide) ?_
    | with_reducible refine T_iaddN (pc1 := 1011) (pc := 1010) k_L_law_1010 (by decide) ?_
    | refine T_iadd (pc1 := 1011) (pc := 1010) k_L_law_1010 rfl ?_
    | refine T_scN (pc1 := 1012) (pc := 1011) k_L_law_1011 rfl (by assumption) (by omega) (by omega) ?_)
  (refine T_cV (As := [_, _]) (d1 := 2) (pc1 := 1015) (pc := 1012) k_L_law_1012 rfl (by decide) (Nat.le_of_ble_eq_true rfl) rfl o_M_textTold l_L_121 rfl (by assumption) rfl (c_M_textTold G0 x102 ok fun r2 e2 => ?_) <;> try dsimp only [psh])
  refine T_icmp_eq_t k_L_law_1015 rfl (e1.trans e2.symm) ?_
  exact kk g I ⟨N, M, So, Si, Pl, Th, He, Wt, T, n, tn, n2, tn2, w, z, kept, HI_s hH, hC, hM, hO⟩
theorem cs_why (hI : Inv c G g I) (hi : i + 6 ≤ G.1.2.1) (hl : G.1.2.1 ≤ 384) (kk : ∀ g' J, Inv (c + 1) G g' J → Rl 153 M_L_law 1495 (LL i) [] g' J K) : Rl 153 M_L_law 1020 (LL i) [] g I K := by
  obtain ⟨N, M, So, Si, Pl, Th, He, Wt, T, n, tn, n2, tn2, w, z, kept, hH, hC, hM, hO⟩ := hI
  have G0 := hH.1
  have hg := hH.2.1
  obtain ⟨ok, okw, okk, oks, okh, okt, hw60, h1556⟩ := id hO
  have n14 : n ≤ 14 := ok.2.1
  have m14 : kept = true → n2 ≤ 14 := fun k => (okk k).1.2.1
  have a0 : isAg g 0 9 11 := ga G0 (by decide) rfl
  have a1 : isAg g 101 10 31 := ga G0 (by decide) rfl
  obtain ⟨c1, c2, c3, c4, c5, c6, c7⟩ := id hC
  unfold LL
  repeat' (first
    | ((first | refine T_aload_n (pc1 := 1021) (pc := 1020) k_L_law_1020 rfl rfl ?_ | refine T_aload_nN (pc1 := 1021) (pc := 1020) k_L_law_1020 rfl rfl ?_) <;> try ((first | refine T_aload_n (pc1 := 1022) (pc := 1021) k_L_law_1021 rfl rfl ?_ | refine T_aload_nN (pc1 := 1022) (pc := 1021) k_L_law_1021 rfl rfl ?_) <;> try (refine T_iload_n (pc1 := 1023) (pc := 1022) k_L_law_1022 rfl rfl ?_ <;> try (refine T_iconst (v := (nI 1)) (pc1 := 1024) (pc := 1023) k_L_law_1023 rfl (by decide) ?_ <;> try ((first | with_reducible refine T_iaddN (pc1 := 1025) (pc := 1024) k_L_law_1024 (by decide) ?_ | refine T_iadd (pc1 := 1025) (pc := 1024) k_L_law_1024 rfl ?_) <;> try (refine T_scN (pc1 := 1026) (pc := 1025) k_L_law_1025 rfl (by assumption) (by omega) (by omega) ?_))))))
    | refine T_aload_n (pc1 := 1022) (pc := 1021) k_L_law_1021 rfl rfl ?_
    | refine T_aload_nN (pc1 := 1022) (pc := 1021) k_L_law_1021 rfl rfl ?_
    | refine T_iload_n (pc1 := 1023) (pc := 1022) k_L_law_1022 rfl rfl ?_
    | refine T_iconst (v := (nI 1)) (pc1 := 1024) (pc := 1023) k_L_law_1023 rfl (by decide) ?_
    | with_reducible refine T_iaddN (pc1 := 1025) (pc := 1024) k_L_law_1024 (by decide) ?_
    | refine T_iadd (pc1 := 1025) (pc := 1024) k_L_law_1024 rfl ?_
    | refine T_scN (pc1 := 1026) (pc := 1025) k_L_law_1025 rfl (by assumption) (by omega) (by omega) ?_)
  obtain ⟨x102, x103, xk, xSo, xSi, xPl, xTh, xHe, xWt, xw, xT, xz⟩ := id hM
  (refine T_cV (As := [_]) (d1 := 2) (pc1 := 1029) (pc := 1026) k_L_law_1026 rfl (by decide) (Nat.le_of_ble_eq_true rfl) rfl o_S_why l_L_122 rfl (by assumption) rfl (c_S_why G0 c1 fun r1 e1 => ?_) <;> try dsimp only [psh])
  repeat' (first
    | ((first | refine T_aload_n (pc1 := 1030) (pc := 1029) k_L_law_1029 rfl rfl ?_ | refine T_aload_nN (pc1 := 1030) (pc := 1029) k_L_law_1029 rfl rfl ?_) <;> try ((first | refine T_aload_n (pc1 := 1031) (pc := 1030) k_L_law_1030 rfl rfl ?_ | refine T_aload_nN (pc1 := 1031) (pc := 1030) k_L_law_1030 rfl rfl ?_) <;> try (refine T_iload_n (pc1 := 1032) (pc := 1031) k_L_law_1031 rfl rfl ?_ <;> try (refine T_iconst (v := (nI 1)) (pc1 := 1033) (pc := 1032) k_L_law_1032 rfl (by decide) ?_ <;> try ((first | with_reducible refine T_iaddN (pc1 := 1034) (pc := 1033) k_L_law_1033 (by decide) ?_ | refine T_iadd (pc1 := 1034) (pc := 1033) k_L_law_1033 rfl ?_) <;> try (refine T_scN (pc1 := 1035) (pc := 1034) k_L_law_1034 rfl (by assumption) (by omega) (by omega) ?_))))))
    | refine T_aload_n (pc1 := 1031) (pc := 1030) k_L_law_1030 rfl rfl ?_
    | refine T_aload_nN (pc1 := 1031) (pc := 1030) k_L_law_1030 rfl rfl ?_
    | refine T_iload_n (pc1 := 1032) (pc := 1031) k_L_law_1031 rfl rfl ?_
    | refine T_iconst (v := (nI 1)) (pc1 := 1033) (pc := 1032) k_L_law_1032 rfl (by decide) ?_
    | with_reducible refine T_iaddN (pc1 := 1034) (pc := 1033) k_L_law_1033 (by decide) ?_
    | refine T_iadd (pc1 := 1034) (pc := 1033) k_L_law_1033 rfl ?_
    | refine T_scN (pc1 := 1035) (pc := 1034) k_L_law_1034 rfl (by assumption) (by omega) (by omega) ?_)
  (refine T_cV (As := [_]) (d1 := 2) (pc1 := 1038) (pc := 1035) k_L_law_1035 rfl (by decide) (Nat.le_of_ble_eq_true rfl) rfl o_M_why l_L_125 rfl (by assumption) rfl (c_M_why G0 x102 ok fun r2 e2 => ?_) <;> try dsimp only [psh])
  refine T_icmp_eq_t k_L_law_1038 rfl (e1.trans e2.symm) ?_
  exact kk g I ⟨N, M, So, Si, Pl, Th, He, Wt, T, n, tn, n2, tn2, w, z, kept, HI_s hH, hC, hM, hO⟩
theorem cs_reads (hI : Inv c G g I) (hi : i + 6 ≤ G.1.2.1) (hl : G.1.2.1 ≤ 384) (kk : ∀ g' J, Inv (c + 1) G g' J → Rl 153 M_L_law 1495 (LL i) [] g' J K) : Rl 153 M_L_law 1152 (LL i) [] g I K := by
  obtain ⟨N, M, So, Si, Pl, Th, He, Wt, T, n, tn, n2, tn2, w, z, kept, hH, hC, hM, hO⟩ := hI
  have G0 := hH.1
  have hg := hH.2.1
  obtain ⟨ok, okw, okk, oks, okh, okt, hw60, h1556⟩ := id hO
  have n14 : n ≤ 14 := ok.2.1
  have m14 : kept = true → n2 ≤ 14 := fun k => (okk k).1.2.1
  have a0 : isAg g 0 9 11 := ga G0 (by decide) rfl
  have a1 : isAg g 101 10 31 := ga G0 (by decide) rfl
  obtain ⟨c1, c2, c3, c4, c5, c6, c7⟩ := id hC
  unfold LL
  repeat' (first
    | ((first | refine T_aload_n (pc1 := 1153) (pc := 1152) k_L_law_1152 rfl rfl ?_ | refine T_aload_nN (pc1 := 1153) (pc := 1152) k_L_law_1152 rfl rfl ?_) <;> try ((first | refine T_aload_n (pc1 := 1154) (pc := 1153) k_L_law_1153 rfl rfl ?_ | refine T_aload_nN (pc1 := 1154) (pc := 1153) k_L_law_1153 rfl rfl ?_) <;> try (refine T_iload_n (pc1 := 1155) (pc := 1154) k_L_law_1154 rfl rfl ?_ <;> try (refine T_iconst (v := (nI 1)) (pc1 := 1156) (pc := 1155) k_L_law_1155 rfl (by decide) ?_ <;> try ((first | with_reducible refine T_iaddN (pc1 := 1157) (pc := 1156) k_L_law_1156 (by decide) ?_ | refine T_iadd (pc1 := 1157) (pc := 1156) k_L_law_1156 rfl ?_) <;> try (refine T_scN (pc1 := 1158) (pc := 1157) k_L_law_1157 rfl (by assumption) (by omega) (by omega) ?_))))))
    | refine T_aload_n (pc1 := 1154) (pc := 1153) k_L_law_1153 rfl rfl ?_
    | refine T_aload_nN (pc1 := 1154) (pc := 1153) k_L_law_1153 rfl rfl ?_
    | refine T_iload_n (pc1 := 1155) (pc := 1154) k_L_law_1154 rfl rfl ?_
    | refine T_iconst (v := (nI 1)) (pc1 := 1156) (pc := 1155) k_L_law_1155 rfl (by decide) ?_
    | with_reducible refine T_iaddN (pc1 := 1157) (pc := 1156) k_L_law_1156 (by decide) ?_
    | refine T_iadd (pc1 := 1157) (pc := 1156) k_L_law_1156 rfl ?_
    | refine T_scN (pc1 := 1158) (pc := 1157) k_L_law_1157 rfl (by assumption) (by omega) (by omega) ?_)
  obtain ⟨x102, x103, xk, xSo, xSi, xPl, xTh, xHe, xWt, xw, xT, xz⟩ := id hM
  (refine T_cV (As := [_]) (d1 := 3) (pc1 := 1161) (pc := 1158) k_L_law_1158 rfl (by decide) (Nat.le_of_ble_eq_true rfl) rfl o_S_reads l_L_138 rfl (by assumption) rfl (c_S_reads G0 okw c1 oks c4 fun r1 e1 => ?_) <;> try dsimp only [psh])
  repeat' (first
    | ((first | refine T_aload_n (pc1 := 1162) (pc := 1161) k_L_law_1161 rfl rfl ?_ | refine T_aload_nN (pc1 := 1162) (pc := 1161) k_L_law_1161 rfl rfl ?_) <;> try ((first | refine T_aload_n (pc1 := 1163) (pc := 1162) k_L_law_1162 rfl rfl ?_ | refine T_aload_nN (pc1 := 1163) (pc := 1162) k_L_law_1162 rfl rfl ?_) <;> try (refine T_iload_n (pc1 := 1164) (pc := 1163) k_L_law_1163 rfl rfl ?_ <;> try (refine T_iconst (v := (nI 1)) (pc1 := 1165) (pc := 1164) k_L_law_1164 rfl (by decide) ?_ <;> try ((first | with_reducible refine T_iaddN (pc1 := 1166) (pc := 1165) k_L_law_1165 (by decide) ?_ | refine T_iadd (pc1 := 1166) (pc := 1165) k_L_law_1165 rfl ?_) <;> try (refine T_scN (pc1 := 1167) (pc := 1166) k_L_law_1166 rfl (by assumption) (by omega) (by omega) ?_))))))
    | refine T_aload_n (pc1 := 1163) (pc := 1162) k_L_law_1162 rfl rfl ?_
    | refine T_aload_nN (pc1 := 1163) (pc := 1162) k_L_law_1162 rfl rfl ?_
    | refine T_iload_n (pc1 := 1164) (pc := 1163) k_L_law_1163 rfl rfl ?_
    | refine T_iconst (v := (nI 1)) (pc1 := 1165) (pc := 1164) k_L_law_1164 rfl (by decide) ?_
    | with_reducible refine T_iaddN (pc1 := 1166) (pc := 1165) k_L_law_1165 (by decide) ?_
    | refine T_iadd (pc1 := 1166) (pc := 1165) k_L_law_1165 rfl ?_
    | refine T_scN (pc1 := 1167) (pc := 1166) k_L_law_1166 rfl (by assumption) (by omega) (by omega) ?_)
  (refine T_cV (As := [_]) (d1 := 3) (pc1 := 1170) (pc := 1167) k_L_law_1167 rfl (by decide) (Nat.le_of_ble_eq_true rfl) rfl o_M_reads l_L_141 rfl (by assumption) rfl (c_M_reads G0 x102 okw xSo xSi xPl oks fun r2 e2 => ?_) <;> try dsimp only [psh])
  refine T_icmp_eq_t k_L_law_1170 rfl (e1.trans e2.symm) ?_
  exact kk g I ⟨N, M, So, Si, Pl, Th, He, Wt, T, n, tn, n2, tn2, w, z, kept, HI_s hH, hC, hM, hO⟩
theorem cs_ask (hI : Inv c G g I) (hi : i + 6 ≤ G.1.2.1) (hl : G.1.2.1 ≤ 384) (kk : ∀ g' J, Inv (c + 1) G g' J → Rl 153 M_L_law 1495 (LL i) [] g' J K) : Rl 153 M_L_law 1281 (LL i) [] g I K := by
  obtain ⟨N, M, So, Si, Pl, Th, He, Wt, T, n, tn, n2, tn2, w, z, kept, hH, hC, hM, hO⟩ := hI
  have G0 := hH.1
  have hg := hH.2.1
  obtain ⟨ok, okw, okk, oks, okh, okt, hw60, h1556⟩ := id hO
  have n14 : n ≤ 14 := ok.2.1
  have m14 : kept = true → n2 ≤ 14 := fun k => (okk k).1.2.1
  have a0 : isAg g 0 9 11 := ga G0 (by decide) rfl
  have a1 : isAg g 101 10 31 := ga G0 (by decide) rfl
  obtain ⟨c1, c2, c3, c4, c5, c6, c7⟩ := id hC
  unfold LL
  repeat' (first
    | ((first | refine T_aload_n (pc1 := 1282) (pc := 1281) k_L_law_1281 rfl rfl ?_ | refine T_aload_nN (pc1 := 1282) (pc := 1281) k_L_law_1281 rfl rfl ?_) <;> try ((first | refine T_aload_n (pc1 := 1283) (pc := 1282) k_L_law_1282 rfl rfl ?_ | refine T_aload_nN (pc1 := 1283) (pc := 1282) k_L_law_1282 rfl rfl ?_) <;> try (refine T_iload_n (pc1 := 1284) (pc := 1283) k_L_law_1283 rfl rfl ?_ <;> try (refine T_iconst (v := (nI 1)) (pc1 := 1285) (pc := 1284) k_L_law_1284 rfl (by decide) ?_ <;> try ((first | with_reducible refine T_iaddN (pc1 := 1286) (pc := 1285) k_L_law_1285 (by decide) ?_ | refine T_iadd (pc1 := 1286) (pc := 1285) k_L_law_1285 rfl ?_) <;> try (refine T_scN (pc1 := 1287) (pc := 1286) k_L_law_1286 rfl (by assumption) (by omega) (by omega) ?_ <;> try ((first | refine T_aload_n (pc1 := 1288) (pc := 1287) k_L_law_1287 rfl rfl ?_ | refine T_aload_nN (pc1 := 1288) (pc := 1287) k_L_law_1287 rfl rfl ?_) <;> try (refine T_iload_n (pc1 := 1289) (pc := 1288) k_L_law_1288 rfl rfl ?_ <;> try (refine T_iconst (v := (nI 2)) (pc1 := 1290) (pc := 1289) k_L_law_1289 rfl (by decide) ?_ <;> try ((first | with_reducible refine T_iaddN (pc1 := 1291) (pc := 1290) k_L_law_1290 (by decide) ?_ | refine T_iadd (pc1 := 1291) (pc := 1290) k_L_law_1290 rfl ?_) <;> try (refine T_scN (pc1 := 1292) (pc := 1291) k_L_law_1291 rfl (by assumption) (by omega) (by omega) ?_)))))))))))
    | refine T_aload_n (pc1 := 1283) (pc := 1282) k_L_law_1282 rfl rfl ?_
    | refine T_aload_nN (pc1 := 1283) (pc := 1282) k_L_law_1282 rfl rfl ?_
    | refine T_iload_n (pc1 := 1284) (pc := 1283) k_L_law_1283 rfl rfl ?_
    | refine T_iconst (v := (nI 1)) (pc1 := 1285) (pc := 1284) k_L_law_1284 rfl (by decide) ?_
    | with_reducible refine T_iaddN (pc1 := 1286) (pc := 1285) k_L_law_1285 (by decide) ?_
    | refine T_iadd (pc1 := 1286) (pc := 1285) k_L_law_1285 rfl ?_
    | refine T_scN (pc1 := 1287) (pc := 1286) k_L_law_1286 rfl (by assumption) (by omega) (by omega) ?_
    | refine T_aload_n (pc1 := 1288) (pc := 1287) k_L_law_1287 rfl rfl ?_
    | refine T_aload_nN (pc1 := 1288) (pc := 1287) k_L_law_1287 rfl rfl ?_
    | refine T_iload_n (pc1 := 1289) (pc := 1288) k_L_law_1288 rfl rfl ?_
    | refine T_iconst (v := (nI 2)) (pc1 := 1290) (pc := 1289) k_L_law_1289 rfl (by decide) ?_
    | with_reducible refine T_iaddN (pc1 := 1291) (pc := 1290) k_L_law_1290 (by decide) ?_
    | refine T_iadd (pc1 := 1291) (pc := 1290) k_L_law_1290 rfl ?_
    | refine T_scN (pc1 := 1292) (pc := 1291) k_L_law_1291 rfl (by assumption) (by omega) (by omega) ?_)
  obtain ⟨x102, x103, xk, xSo, xSi, xPl, xTh, xHe, xWt, xw, xT, xz⟩ := id hM
  (refine T_cV (As := [_, _]) (d1 := 3) (pc1 := 1295) (pc := 1292) k_L_law_1292 rfl (by decide) (Nat.le_of_ble_eq_true rfl) rfl o_S_ask l_L_151 rfl (by assumption) rfl (c_S_ask G0 okh c5 fun r1 e1 => ?_) <;> try dsimp only [psh])
  repeat' (first
    | ((first | refine T_aload_n (pc1 := 1296) (pc := 1295) k_L_law_1295 rfl rfl ?_ | refine T_aload_nN (pc1 := 1296) (pc := 1295) k_L_law_1295 rfl rfl ?_) <;> try ((first | refine T_aload_n (pc1 := 1297) (pc := 1296) k_L_law_1296 rfl rfl ?_ | refine T_aload_nN (pc1 := 1297) (pc := 1296) k_L_law_1296 rfl rfl ?_) <;> try (refine T_iload_n (pc1 := 1298) (pc := 1297) k_L_law_1297 rfl rfl ?_ <;> try (refine T_iconst (v := (nI 1)) (pc1 := 1299) (pc := 1298) k_L_law_1298 rfl (by decide) ?_ <;> try ((first | with_reducible refine T_iaddN (pc1 := 1300) (pc := 1299) k_L_law_1299 (by decide) ?_ | refine T_iadd (pc1 := 1300) (pc := 1299) k_L_law_1299 rfl ?_) <;> try (refine T_scN (pc1 := 1301) (pc := 1300) k_L_law_1300 rfl (by assumption) (by omega) (by omega) ?_ <;> try ((first | refine T_aload_n (pc1 := 1302) (pc := 1301) k_L_law_1301 rfl rfl ?_ | refine T_aload_nN (pc1 := 1302) (pc := 1301) k_L_law_1301 rfl rfl ?_) <;> try (refine T_iload_n (pc1 := 1303) (pc := 1302) k_L_law_1302 rfl rfl ?_ <;> try (refine T_iconst (v := (nI 2)) (pc1 := 1304) (pc := 1303) k_L_law_1303 rfl (by decide) ?_ <;> try ((first | with_reducible refine T_iaddN (pc1 := 1305) (pc := 1304) k_L_law_1304 (by decide) ?_ | refine T_iadd (pc1 := 1305) (pc := 1304) k_L_law_1304 rfl ?_) <;> try (refine T_scN (pc1 := 1306) (pc := 1305) k_L_law_1305 rfl (by assumption) (by omega) (by omega) ?_)))))))))))
    | refine T_aload_n (pc1 := 1297) (pc := 1296) k_L_law_1296 rfl rfl ?_
    | refine T_aload_nN (pc1 := 1297) (pc := 1296) k_L_law_1296 rfl rfl ?_
    | refine T_iload_n (pc1 := 1298) (pc := 1297) k_L_law_1297 rfl rfl ?_
    | refine T_iconst (v := (nI 1)) (pc1 := 1299) (pc := 1298) k_L_law_1298 rfl (by decide) ?_
    | with_reducible refine T_iaddN (pc1 := 1300) (pc := 1299) k_L_law_1299 (by decide) ?_
    | refine T_iadd (pc1 := 1300) (pc := 1299) k_L_law_1299 rfl ?_
    | refine T_scN (pc1 := 1301) (pc := 1300) k_L_law_1300 rfl (by assumption) (by omega) (by omega) ?_
    | refine T_aload_n (pc1 := 1302) (pc := 1301) k_L_law_1301 rfl rfl ?_
    | refine T_aload_nN (pc1 := 1302) (pc := 1301) k_L_law_1301 rfl rfl ?_
    | refine T_iload_n (pc1 := 1303) (pc := 1302) k_L_law_1302 rfl rfl ?_
    | refine T_iconst (v := (nI 2)) (pc1 := 1304) (pc := 1303) k_L_law_1303 rfl (by decide) ?_
    | with_reducible refine T_iaddN (pc1 := 1305) (pc := 1304) k_L_law_1304 (by decide) ?_
    | refine T_iadd (pc1 := 1305) (pc := 1304) k_L_law_1304 rfl ?_
    | refine T_scN (pc1 := 1306) (pc := 1305) k_L_law_1305 rfl (by assumption) (by omega) (by omega) ?_)
  (refine T_cV (As := [_, _]) (d1 := 3) (pc1 := 1309) (pc := 1306) k_L_law_1306 rfl (by decide) (Nat.le_of_ble_eq_true rfl) rfl o_M_ask l_L_154 rfl (by assumption) rfl (c_M_ask G0 xTh xHe okh fun r2 e2 => ?_) <;> try dsimp only [psh])
  refine T_icmp_eq_t k_L_law_1309 rfl (e1.trans e2.symm) ?_
  exact kk g I ⟨N, M, So, Si, Pl, Th, He, Wt, T, n, tn, n2, tn2, w, z, kept, HI_s hH, hC, hM, hO⟩
theorem cs_item (hI : Inv c G g I) (hi : i + 6 ≤ G.1.2.1) (hl : G.1.2.1 ≤ 384) (kk : ∀ g' J, Inv (c + 1) G g' J → Rl 153 M_L_law 1495 (LL i) [] g' J K) : Rl 153 M_L_law 1314 (LL i) [] g I K := by
  obtain ⟨N, M, So, Si, Pl, Th, He, Wt, T, n, tn, n2, tn2, w, z, kept, hH, hC, hM, hO⟩ := hI
  have G0 := hH.1
  have hg := hH.2.1
  obtain ⟨ok, okw, okk, oks, okh, okt, hw60, h1556⟩ := id hO
  have n14 : n ≤ 14 := ok.2.1
  have m14 : kept = true → n2 ≤ 14 := fun k => (okk k).1.2.1
  have a0 : isAg g 0 9 11 := ga G0 (by decide) rfl
  have a1 : isAg g 101 10 31 := ga G0 (by decide) rfl
  obtain ⟨c1, c2, c3, c4, c5, c6, c7⟩ := id hC
  unfold LL
  repeat' (first
    | ((first | refine T_aload_n (pc1 := 1315) (pc := 1314) k_L_law_1314 rfl rfl ?_ | refine T_aload_nN (pc1 := 1315) (pc := 1314) k_L_law_1314 rfl rfl ?_) <;> try ((first | refine T_aload_n (pc1 := 1316) (pc := 1315) k_L_law_1315 rfl rfl ?_ | refine T_aload_nN (pc1 := 1316) (pc := 1315) k_L_law_1315 rfl rfl ?_) <;> try (refine T_iload_n (pc1 := 1317) (pc := 1316) k_L_law_1316 rfl rfl ?_ <;> try (refine T_iconst (v := (nI 1)) (pc1 := 1318) (pc := 1317) k_L_law_1317 rfl (by decide) ?_ <;> try ((first | with_reducible refine T_iaddN (pc1 := 1319) (pc := 1318) k_L_law_1318 (by decide) ?_ | refine T_iadd (pc1 := 1319) (pc := 1318) k_L_law_1318 rfl ?_) <;> try (refine T_scN (pc1 := 1320) (pc := 1319) k_L_law_1319 rfl (by assumption) (by omega) (by omega) ?_ <;> try ((first | refine T_aload_n (pc1 := 1321) (pc := 1320) k_L_law_1320 rfl rfl ?_ | refine T_aload_nN (pc1 := 1321) (pc := 1320) k_L_law_1320 rfl rfl ?_) <;> try (refine T_iload_n (pc1 := 1322) (pc := 1321) k_L_law_1321 rfl rfl ?_ <;> try (refine T_iconst (v := (nI 2)) (pc1 := 1323) (pc := 1322) k_L_law_1322 rfl (by decide) ?_ <;> try ((first | with_reducible refine T_iaddN (pc1 := 1324) (pc := 1323) k_L_law_1323 (by decide) ?_ | refine T_iadd (pc1 := 1324) (pc := 1323) k_L_law_1323 rfl ?_) <;> try (refine T_scN (pc1 := 1325) (pc := 1324) k_L_law_1324 rfl (by assumption) (by omega) (by omega) ?_)))))))))))
    | refine T_aload_n (pc1 := 1316) (pc := 1315) k_L_law_1315 rfl rfl ?_
    | refine T_aload_nN (pc1 := 1316) (pc := 1315) k_L_law_1315 rfl rfl ?_
    | refine T_iload_n (pc1 := 1317) (pc := 1316) k_L_law_1316 rfl rfl ?_
    | refine T_iconst (v := (nI 1)) (pc1 := 1318) (pc := 1317) k_L_law_1317 rfl (by decide) ?_
    | with_reducible refine T_iaddN (pc1 := 1319) (pc := 1318) k_L_law_1318 (by decide) ?_
    | refine T_iadd (pc1 := 1319) (pc := 1318) k_L_law_1318 rfl ?_
    | refine T_scN (pc1 := 1320) (pc := 1319) k_L_law_1319 rfl (by assumption) (by omega) (by omega) ?_
    | refine T_aload_n (pc1 := 1321) (pc := 1320) k_L_law_1320 rfl rfl ?_
    | refine T_aload_nN (pc1 := 1321) (pc := 1320) k_L_law_1320 rfl rfl ?_
    | refine T_iload_n (pc1 := 1322) (pc := 1321) k_L_law_1321 rfl rfl ?_
    | refine T_iconst (v := (nI 2)) (pc1 := 1323) (pc := 1322) k_L_law_1322 rfl (by decide) ?_
    | with_reducible refine T_iaddN (pc1 := 1324) (pc := 1323) k_L_law_1323 (by decide) ?_
    | refine T_iadd (pc1 := 1324) (pc := 1323) k_L_law_1323 rfl ?_
    | refine T_scN (pc1 := 1325) (pc := 1324) k_L_law_1324 rfl (by assumption) (by omega) (by omega) ?_)
  obtain ⟨x102, x103, xk, xSo, xSi, xPl, xTh, xHe, xWt, xw, xT, xz⟩ := id hM
  (refine T_cV (As := [_, _]) (d1 := 3) (pc1 := 1328) (pc := 1325) k_L_law_1325 rfl (by decide) (Nat.le_of_ble_eq_true rfl) rfl o_S_item l_L_155 rfl (by assumption) rfl (c_S_item G0 okh c5 fun r1 e1 => ?_) <;> try dsimp only [psh])
  repeat' (first
    | ((first | refine T_aload_n (pc1 := 1329) (pc := 1328) k_L_law_1328 rfl rfl ?_ | refine T_aload_nN (pc1 := 1329) (pc := 1328) k_L_law_1328 rfl rfl ?_) <;> try ((first | refine T_aload_n (pc1 := 1330) (pc := 1329) k_L_law_1329 rfl rfl ?_ | refine T_aload_nN (pc1 := 1330) (pc := 1329) k_L_law_1329 rfl rfl ?_) <;> try (refine T_iload_n (pc1 := 1331) (pc := 1330) k_L_law_1330 rfl rfl ?_ <;> try (refine T_iconst (v := (nI 1)) (pc1 := 1332) (pc := 1331) k_L_law_1331 rfl (by decide) ?_ <;> try ((first | with_reducible refine T_iaddN (pc1 := 1333) (pc := 1332) k_L_law_1332 (by decide) ?_ | refine T_iadd (pc1 := 1333) (pc := 1332) k_L_law_1332 rfl ?_) <;> try (refine T_scN (pc1 := 1334) (pc := 1333) k_L_law_1333 rfl (by assumption) (by omega) (by omega) ?_ <;> try ((first | refine T_aload_n (pc1 := 1335) (pc := 1334) k_L_law_1334 rfl rfl ?_ | refine T_aload_nN (pc1 := 1335) (pc := 1334) k_L_law_1334 rfl rfl ?_) <;> try (refine T_iload_n (pc1 := 1336) (pc := 1335) k_L_law_1335 rfl rfl ?_ <;> try (refine T_iconst (v := (nI 2)) (pc1 := 1337) (pc := 1336) k_L_law_1336 rfl (by decide) ?_ <;> try ((first | with_reducible refine T_iaddN (pc1 := 1338) (pc := 1337) k_L_law_1337 (by decide) ?_ | refine T_iadd (pc1 := 1338) (pc := 1337) k_L_law_1337 rfl ?_) <;> try (refine T_scN (pc1 := 1339) (pc := 1338) k_L_law_1338 rfl (by assumption) (by omega) (by omega) ?_)))))))))))
    | refine T_aload_n (pc1 := 1330) (pc := 1329) k_L_law_1329 rfl rfl ?_
    | refine T_aload_nN (pc1 := 1330) (pc := 1329) k_L_law_1329 rfl rfl ?_
    | refine T_iload_n (pc1 := 1331) (pc := 1330) k_L_law_1330 rfl rfl ?_
    | refine T_iconst (v := (nI 1)) (pc1 := 1332) (pc := 1331) k_L_law_1331 rfl (by decide) ?_
    | with_reducible refine T_iaddN (pc1 := 1333) (pc := 1332) k_L_law_1332 (by decide) ?_
    | refine T_iadd (pc1 := 1333) (pc := 1332) k_L_law_1332 rfl ?_
    | refine T_scN (pc1 := 1334) (pc := 1333) k_L_law_1333 rfl (by assumption) (by omega) (by omega) ?_
    | refine T_aload_n (pc1 := 1335) (pc := 1334) k_L_law_1334 rfl rfl ?_
    | refine T_aload_nN (pc1 := 1335) (pc := 1334) k_L_law_1334 rfl rfl ?_
    | refine T_iload_n (pc1 := 1336) (pc := 1335) k_L_law_1335 rfl rfl ?_
    | refine T_iconst (v := (nI 2)) (pc1 := 1337) (pc := 1336) k_L_law_1336 rfl (by decide) ?_
    | with_reducible refine T_iaddN (pc1 := 1338) (pc := 1337) k_L_law_1337 (by decide) ?_
    | refine T_iadd (pc1 := 1338) (pc := 1337) k_L_law_1337 rfl ?_
    | refine T_scN (pc1 := 1339) (pc := 1338) k_L_law_1338 rfl (by assumption) (by omega) (by omega) ?_)
  (refine T_cV (As := [_, _]) (d1 := 3) (pc1 := 1342) (pc := 1339) k_L_law_1339 rfl (by decide) (Nat.le_of_ble_eq_true rfl) rfl o_M_item l_L_158 rfl (by assumption) rfl (c_M_item G0 xTh xHe okh fun r2 e2 => ?_) <;> try dsimp only [psh])
  refine T_icmp_eq_t k_L_law_1342 rfl (e1.trans e2.symm) ?_
  exact kk g I ⟨N, M, So, Si, Pl, Th, He, Wt, T, n, tn, n2, tn2, w, z, kept, HI_s hH, hC, hM, hO⟩
theorem cs_rest (hI : Inv c G g I) (hi : i + 6 ≤ G.1.2.1) (hl : G.1.2.1 ≤ 384) (kk : ∀ g' J, Inv (c + 1) G g' J → Rl 153 M_L_law 1495 (LL i) [] g' J K) : Rl 153 M_L_law 1347 (LL i) [] g I K := by
  obtain ⟨N, M, So, Si, Pl, Th, He, Wt, T, n, tn, n2, tn2, w, z, kept, hH, hC, hM, hO⟩ := hI
  have G0 := hH.1
  have hg := hH.2.1
  obtain ⟨ok, okw, okk, oks, okh, okt, hw60, h1556⟩ := id hO
  have n14 : n ≤ 14 := ok.2.1
  have m14 : kept = true → n2 ≤ 14 := fun k => (okk k).1.2.1
  have a0 : isAg g 0 9 11 := ga G0 (by decide) rfl
  have a1 : isAg g 101 10 31 := ga G0 (by decide) rfl
  obtain ⟨c1, c2, c3, c4, c5, c6, c7⟩ := id hC
  unfold LL
  repeat' (first
    | ((first | refine T_aload_n (pc1 := 1348) (pc := 1347) k_L_law_1347 rfl rfl ?_ | refine T_aload_nN (pc1 := 1348) (pc := 1347) k_L_law_1347 rfl rfl ?_) <;> try ((first | refine T_aload_n (pc1 := 1349) (pc := 1348) k_L_law_1348 rfl rfl ?_ | refine T_aload_nN (pc1 := 1349) (pc := 1348) k_L_law_1348 rfl rfl ?_) <;> try (refine T_iload_n (pc1 := 1350) (pc := 1349) k_L_law_1349 rfl rfl ?_ <;> try (refine T_iconst (v := (nI 1)) (pc1 := 1351) (pc := 1350) k_L_law_1350 rfl (by decide) ?_ <;> try ((first | with_reducible refine T_iaddN (pc1 := 1352) (pc := 1351) k_L_law_1351 (by decide) ?_ | refine T_iadd (pc1 := 1352) (pc := 1351) k_L_law_1351 rfl ?_) <;> try (refine T_scN (pc1 := 1353) (pc := 1352) k_L_law_1352 rfl (by assumption) (by omega) (by omega) ?_ <;> try ((first | refine T_aload_n (pc1 := 1354) (pc := 1353) k_L_law_1353 rfl rfl ?_ | refine T_aload_nN (pc1 := 1354) (pc := 1353) k_L_law_1353 rfl rfl ?_) <;> try (refine T_iload_n (pc1 := 1355) (pc := 1354) k_L_law_1354 rfl rfl ?_ <;> try (refine T_iconst (v := (nI 2)) (pc1 := 1356) (pc := 1355) k_L_law_1355 rfl (by decide) ?_ <;> try ((first | with_reducible refine T_iaddN (pc1 := 1357) (pc := 1356) k_L_law_1356 (by decide) ?_ | refine T_iadd (pc1 := 1357) (pc := 1356) k_L_law_1356 rfl ?_) <;> try (refine T_scN (pc1 := 1358) (pc := 1357) k_L_law_1357 rfl (by assumption) (by omega) (by omega) ?_)))))))))))
    | refine T_aload_n (pc1 := 1349) (pc := 1348) k_L_law_1348 rfl rfl ?_
    | refine T_aload_nN (pc1 := 1349) (pc := 1348) k_L_law_1348 rfl rfl ?_
    | refine T_iload_n (pc1 := 1350) (pc := 1349) k_L_law_1349 rfl rfl ?_
    | refine T_iconst (v := (nI 1)) (pc1 := 1351) (pc := 1350) k_L_law_1350 rfl (by decide) ?_
    | with_reducible refine T_iaddN (pc1 := 1352) (pc := 1351) k_L_law_1351 (by decide) ?_
    | refine T_iadd (pc1 := 1352) (pc := 1351) k_L_law_1351 rfl ?_
    | refine T_scN (pc1 := 1353) (pc := 1352) k_L_law_1352 rfl (by assumption) (by omega) (by omega) ?_
    | refine T_aload_n (pc1 := 1354) (pc := 1353) k_L_law_1353 rfl rfl ?_
    | refine T_aload_nN (pc1 := 1354) (pc := 1353) k_L_law_1353 rfl rfl ?_
    | refine T_iload_n (pc1 := 1355) (pc := 1354) k_L_law_1354 rfl rfl ?_
    | refine T_iconst (v := (nI 2)) (pc1 := 1356) (pc := 1355) k_L_law_1355 rfl (by decide) ?_
    | with_reducible refine T_iaddN (pc1 := 1357) (pc := 1356) k_L_law_1356 (by decide) ?_
    | refine T_iadd (pc1 := 1357) (pc := 1356) k_L_law_1356 rfl ?_
    | refine T_scN (pc1 := 1358) (pc := 1357) k_L_law_1357 rfl (by assumption) (by omega) (by omega) ?_)
  obtain ⟨x102, x103, xk, xSo, xSi, xPl, xTh, xHe, xWt, xw, xT, xz⟩ := id hM
  (refine T_cV (As := [_, _]) (d1 := 3) (pc1 := 1361) (pc := 1358) k_L_law_1358 rfl (by decide) (Nat.le_of_ble_eq_true rfl) rfl o_S_rest l_L_159 rfl (by assumption) rfl (c_S_rest G0 okh c5 fun r1 e1 => ?_) <;> try dsimp only [psh])
  repeat' (first
    | ((first | refine T_aload_n (pc1 := 1362) (pc := 1361) k_L_law_1361 rfl rfl ?_ | refine T_aload_nN (pc1 := 1362) (pc := 1361) k_L_law_1361 rfl rfl ?_) <;> try ((first | refine T_aload_n (pc1 := 1363) (pc := 1362) k_L_law_1362 rfl rfl ?_ | refine T_aload_nN (pc1 := 1363) (pc := 1362) k_L_law_1362 rfl rfl ?_) <;> try (refine T_iload_n (pc1 := 1364) (pc := 1363) k_L_law_1363 rfl rfl ?_ <;> try (refine T_iconst (v := (nI 1)) (pc1 := 1365) (pc := 1364) k_L_law_1364 rfl (by decide) ?_ <;> try ((first | with_reducible refine T_iaddN (pc1 := 1366) (pc := 1365) k_L_law_1365 (by decide) ?_ | refine T_iadd (pc1 := 1366) (pc := 1365) k_L_law_1365 rfl ?_) <;> try (refine T_scN (pc1 := 1367) (pc := 1366) k_L_law_1366 rfl (by assumption) (by omega) (by omega) ?_ <;> try ((first | refine T_aload_n (pc1 := 1368) (pc := 1367) k_L_law_1367 rfl rfl ?_ | refine T_aload_nN (pc1 := 1368) (pc := 1367) k_L_law_1367 rfl rfl ?_) <;> try (refine T_iload_n (pc1 := 1369) (pc := 1368) k_L_law_1368 rfl rfl ?_ <;> try (refine T_iconst (v := (nI 2)) (pc1 := 1370) (pc := 1369) k_L_law_1369 rfl (by decide) ?_ <;> try ((first | with_reducible refine T_iaddN (pc1 := 1371) (pc := 1370) k_L_law_1370 (by decide) ?_ | refine T_iadd (pc1 := 1371) (pc := 1370) k_L_law_1370 rfl ?_) <;> try (refine T_scN (pc1 := 1372) (pc := 1371) k_L_law_1371 rfl (by assumption) (by omega) (by omega) ?_)))))))))))
    | refine T_aload_n (pc1 := 1363) (pc := 1362) k_L_law_1362 rfl rfl ?_
    | refine T_aload_nN (pc1 := 1363) (pc := 1362) k_L_law_1362 rfl rfl ?_
    | refine T_iload_n (pc1 := 1364) (pc := 1363) k_L_law_1363 rfl rfl ?_
    | refine T_iconst (v := (nI 1)) (pc1 := 1365) (pc := 1364) k_L_law_1364 rfl (by decide) ?_
    | with_reducible refine T_iaddN (pc1 := 1366) (pc := 1365) k_L_law_1365 (by decide) ?_
    | refine T_iadd (pc1 := 1366) (pc := 1365) k_L_law_1365 rfl ?_
    | refine T_scN (pc1 := 1367) (pc := 1366) k_L_law_1366 rfl (by assumption) (by omega) (by omega) ?_
    | refine T_aload_n (pc1 := 1368) (pc := 1367) k_L_law_1367 rfl rfl ?_
    | refine T_aload_nN (pc1 := 1368) (pc := 1367) k_L_law_1367 rfl rfl ?_
    | refine T_iload_n (pc1 := 1369) (pc := 1368) k_L_law_1368 rfl rfl ?_
    | refine T_iconst (v := (nI 2)) (pc1 := 1370) (pc := 1369) k_L_law_1369 rfl (by decide) ?_
    | with_reducible refine T_iaddN (pc1 := 1371) (pc := 1370) k_L_law_1370 (by decide) ?_
    | refine T_iadd (pc1 := 1371) (pc := 1370) k_L_law_1370 rfl ?_
    | refine T_scN (pc1 := 1372) (pc := 1371) k_L_law_1371 rfl (by assumption) (by omega) (by omega) ?_)
  (refine T_cV (As := [_, _]) (d1 := 3) (pc1 := 1375) (pc := 1372) k_L_law_1372 rfl (by decide) (Nat.le_of_ble_eq_true rfl) rfl o_M_rest l_L_162 rfl (by assumption) rfl (c_M_rest G0 xTh xHe okh fun r2 e2 => ?_) <;> try dsimp only [psh])
  refine T_icmp_eq_t k_L_law_1375 rfl (e1.trans e2.symm) ?_
  exact kk g I ⟨N, M, So, Si, Pl, Th, He, Wt, T, n, tn, n2, tn2, w, z, kept, HI_s hH, hC, hM, hO⟩
theorem cs_count (hI : Inv c G g I) (hi : i + 6 ≤ G.1.2.1) (hl : G.1.2.1 ≤ 384) (kk : ∀ g' J, Inv (c + 1) G g' J → Rl 153 M_L_law 1495 (LL i) [] g' J K) : Rl 153 M_L_law 1472 (LL i) [] g I K := by
  obtain ⟨N, M, So, Si, Pl, Th, He, Wt, T, n, tn, n2, tn2, w, z, kept, hH, hC, hM, hO⟩ := hI
  have G0 := hH.1
  have hg := hH.2.1
  obtain ⟨ok, okw, okk, oks, okh, okt, hw60, h1556⟩ := id hO
  have n14 : n ≤ 14 := ok.2.1
  have m14 : kept = true → n2 ≤ 14 := fun k => (okk k).1.2.1
  have a0 : isAg g 0 9 11 := ga G0 (by decide) rfl
  have a1 : isAg g 101 10 31 := ga G0 (by decide) rfl
  obtain ⟨c1, c2, c3, c4, c5, c6, c7⟩ := id hC
  unfold LL
  repeat' (first
    | ((first | refine T_aload_n (pc1 := 1473) (pc := 1472) k_L_law_1472 rfl rfl ?_ | refine T_aload_nN (pc1 := 1473) (pc := 1472) k_L_law_1472 rfl rfl ?_) <;> try ((first | refine T_aload_n (pc1 := 1474) (pc := 1473) k_L_law_1473 rfl rfl ?_ | refine T_aload_nN (pc1 := 1474) (pc := 1473) k_L_law_1473 rfl rfl ?_) <;> try (refine T_iload_n (pc1 := 1475) (pc := 1474) k_L_law_1474 rfl rfl ?_ <;> try (refine T_iconst (v := (nI 1)) (pc1 := 1476) (pc := 1475) k_L_law_1475 rfl (by decide) ?_ <;> try ((first | with_reducible refine T_iaddN (pc1 := 1477) (pc := 1476) k_L_law_1476 (by decide) ?_ | refine T_iadd (pc1 := 1477) (pc := 1476) k_L_law_1476 rfl ?_) <;> try (refine T_scN (pc1 := 1478) (pc := 1477) k_L_law_1477 rfl (by assumption) (by omega) (by omega) ?_))))))
    | refine T_aload_n (pc1 := 1474) (pc := 1473) k_L_law_1473 rfl rfl ?_
    | refine T_aload_nN (pc1 := 1474) (pc := 1473) k_L_law_1473 rfl rfl ?_
    | refine T_iload_n (pc1 := 1475) (pc := 1474) k_L_law_1474 rfl rfl ?_
    | refine T_iconst (v := (nI 1)) (pc1 := 1476) (pc := 1475) k_L_law_1475 rfl (by decide) ?_
    | with_reducible refine T_iaddN (pc1 := 1477) (pc := 1476) k_L_law_1476 (by decide) ?_
    | refine T_iadd (pc1 := 1477) (pc := 1476) k_L_law_1476 rfl ?_
    | refine T_scN (pc1 := 1478) (pc := 1477) k_L_law_1477 rfl (by assumption) (by omega) (by omega) ?_)
  obtain ⟨x102, x103, xk, xSo, xSi, xPl, xTh, xHe, xWt, xw, xT, xz⟩ := id hM
  (refine T_cV (As := [_]) (d1 := 2) (pc1 := 1481) (pc := 1478) k_L_law_1478 rfl (by decide) (Nat.le_of_ble_eq_true rfl) rfl o_S_count l_L_179 rfl (by assumption) rfl (c_S_count G0 ok c1 c6 c7 fun r1 e1 => ?_) <;> try dsimp only [psh])
  repeat' (first
    | ((first | refine T_aload_n (pc1 := 1482) (pc := 1481) k_L_law_1481 rfl rfl ?_ | refine T_aload_nN (pc1 := 1482) (pc := 1481) k_L_law_1481 rfl rfl ?_) <;> try ((first | refine T_aload_n (pc1 := 1483) (pc := 1482) k_L_law_1482 rfl rfl ?_ | refine T_aload_nN (pc1 := 1483) (pc := 1482) k_L_law_1482 rfl rfl ?_) <;> try (refine T_iload_n (pc1 := 1484) (pc := 1483) k_L_law_1483 rfl rfl ?_ <;> try (refine T_iconst (v := (nI 1)) (pc1 := 1485) (pc := 1484) k_L_law_1484 rfl (by decide) ?_ <;> try ((first | with_reducible refine T_iaddN (pc1 := 1486) (pc := 1485) k_L_law_1485 (by decide) ?_ | refine T_iadd (pc1 := 1486) (pc := 1485) k_L_law_1485 rfl ?_) <;> try (refine T_scN (pc1 := 1487) (pc := 1486) k_L_law_1486 rfl (by assumption) (by omega) (by omega) ?_))))))
    | refine T_aload_n (pc1 := 1483) (pc := 1482) k_L_law_1482 rfl rfl ?_
    | refine T_aload_nN (pc1 := 1483) (pc := 1482) k_L_law_1482 rfl rfl ?_
    | refine T_iload_n (pc1 := 1484) (pc := 1483) k_L_law_1483 rfl rfl ?_
    | refine T_iconst (v := (nI 1)) (pc1 := 1485) (pc := 1484) k_L_law_1484 rfl (by decide) ?_
    | with_reducible refine T_iaddN (pc1 := 1486) (pc := 1485) k_L_law_1485 (by decide) ?_
    | refine T_iadd (pc1 := 1486) (pc := 1485) k_L_law_1485 rfl ?_
    | refine T_scN (pc1 := 1487) (pc := 1486) k_L_law_1486 rfl (by assumption) (by omega) (by omega) ?_)
  (refine T_cV (As := [_]) (d1 := 3) (pc1 := 1490) (pc := 1487) k_L_law_1487 rfl (by decide) (Nat.le_of_ble_eq_true rfl) rfl o_M_count l_L_182 rfl (by assumption) rfl (c_M_count G0 x102 ok xw xz fun r2 e2 => ?_) <;> try dsimp only [psh])
  refine T_icmp_eq_t k_L_law_1490 rfl (e1.trans e2.symm) ?_
  exact kk g I ⟨N, M, So, Si, Pl, Th, He, Wt, T, n, tn, n2, tn2, w, z, kept, HI_s hH, hC, hM, hO⟩
theorem cs_latest (hI : Inv c G g I) (hi : i + 6 ≤ G.1.2.1) (hl : G.1.2.1 ≤ 384) (kk : ∀ g' J, Inv (c + 1) G g' J → Rl 153 M_L_law 1495 (LL i) [] g' J K) : Rl 153 M_L_law 519 (LL i) [] g I K := by
  obtain ⟨N, M, So, Si, Pl, Th, He, Wt, T, n, tn, n2, tn2, w, z, kept, hH, hC, hM, hO⟩ := hI
  have G0 := hH.1
  have hg := hH.2.1
  obtain ⟨ok, okw, okk, oks, okh, okt, hw60, h1556⟩ := id hO
  have n14 : n ≤ 14 := ok.2.1
  have m14 : kept = true → n2 ≤ 14 := fun k => (okk k).1.2.1
  have a0 : isAg g 0 9 11 := ga G0 (by decide) rfl
  have a1 : isAg g 101 10 31 := ga G0 (by decide) rfl
  obtain ⟨c1, c2, c3, c4, c5, c6, c7⟩ := id hC
  unfold LL
  repeat' (first
    | ((first | refine T_aload_n (pc1 := 520) (pc := 519) k_L_law_519 rfl rfl ?_ | refine T_aload_nN (pc1 := 520) (pc := 519) k_L_law_519 rfl rfl ?_) <;> try ((first | refine T_aload_n (pc1 := 521) (pc := 520) k_L_law_520 rfl rfl ?_ | refine T_aload_nN (pc1 := 521) (pc := 520) k_L_law_520 rfl rfl ?_) <;> try (refine T_iload_n (pc1 := 522) (pc := 521) k_L_law_521 rfl rfl ?_ <;> try (refine T_iconst (v := (nI 1)) (pc1 := 523) (pc := 522) k_L_law_522 rfl (by decide) ?_ <;> try ((first | with_reducible refine T_iaddN (pc1 := 524) (pc := 523) k_L_law_523 (by decide) ?_ | refine T_iadd (pc1 := 524) (pc := 523) k_L_law_523 rfl ?_) <;> try (refine T_scN (pc1 := 525) (pc := 524) k_L_law_524 rfl (by assumption) (by omega) (by omega) ?_))))))
    | refine T_aload_n (pc1 := 521) (pc := 520) k_L_law_520 rfl rfl ?_
    | refine T_aload_nN (pc1 := 521) (pc := 520) k_L_law_520 rfl rfl ?_
    | refine T_iload_n (pc1 := 522) (pc := 521) k_L_law_521 rfl rfl ?_
    | refine T_iconst (v := (nI 1)) (pc1 := 523) (pc := 522) k_L_law_522 rfl (by decide) ?_
    | with_reducible refine T_iaddN (pc1 := 524) (pc := 523) k_L_law_523 (by decide) ?_
    | refine T_iadd (pc1 := 524) (pc := 523) k_L_law_523 rfl ?_
    | refine T_scN (pc1 := 525) (pc := 524) k_L_law_524 rfl (by assumption) (by omega) (by omega) ?_)
  obtain ⟨x102, x103, xk, xSo, xSi, xPl, xTh, xHe, xWt, xw, xT, xz⟩ := id hM
  (refine T_cV (As := [_]) (d1 := 2) (pc1 := 528) (pc := 525) k_L_law_525 rfl (by decide) (Nat.le_of_ble_eq_true rfl) rfl o_S_latest l_L_53 rfl (by assumption) rfl (c_S_latest G0 okw c1 ?_) <;> try dsimp only [psh])
  repeat' (first
    | ((first | refine T_aload_n (pc1 := 529) (pc := 528) k_L_law_528 rfl rfl ?_ | refine T_aload_nN (pc1 := 529) (pc := 528) k_L_law_528 rfl rfl ?_) <;> try ((first | refine T_aload_n (pc1 := 530) (pc := 529) k_L_law_529 rfl rfl ?_ | refine T_aload_nN (pc1 := 530) (pc := 529) k_L_law_529 rfl rfl ?_) <;> try (refine T_iload_n (pc1 := 531) (pc := 530) k_L_law_530 rfl rfl ?_ <;> try (refine T_iconst (v := (nI 1)) (pc1 := 532) (pc := 531) k_L_law_531 rfl (by decide) ?_ <;> try ((first | with_reducible refine T_iaddN (pc1 := 533) (pc := 532) k_L_law_532 (by decide) ?_ | refine T_iadd (pc1 := 533) (pc := 532) k_L_law_532 rfl ?_) <;> try (refine T_scN (pc1 := 534) (pc := 533) k_L_law_533 rfl (by assumption) (by omega) (by omega) ?_))))))
    | refine T_aload_n (pc1 := 530) (pc := 529) k_L_law_529 rfl rfl ?_
    | refine T_aload_nN (pc1 := 530) (pc := 529) k_L_law_529 rfl rfl ?_
    | refine T_iload_n (pc1 := 531) (pc := 530) k_L_law_530 rfl rfl ?_
    | refine T_iconst (v := (nI 1)) (pc1 := 532) (pc := 531) k_L_law_531 rfl (by decide) ?_
    | with_reducible refine T_iaddN (pc1 := 533) (pc := 532) k_L_law_532 (by decide) ?_
    | refine T_iadd (pc1 := 533) (pc := 532) k_L_law_532 rfl ?_
    | refine T_scN (pc1 := 534) (pc := 533) k_L_law_533 rfl (by assumption) (by omega) (by omega) ?_)
  (refine T_cV (As := [_]) (d1 := 2) (pc1 := 537) (pc := 534) k_L_law_534 rfl (by decide) (Nat.le_of_ble_eq_true rfl) rfl o_M_latest l_L_56 rfl (by assumption) rfl (c_M_latest G0 x102 ?_) <;> try dsimp only [psh])
  refine T_icmp_eq_t k_L_law_537 rfl rfl ?_
  exact kk g I ⟨N, M, So, Si, Pl, Th, He, Wt, T, n, tn, n2, tn2, w, z, kept, HI_s hH, hC, hM, hO⟩
theorem cs_tried (hI : Inv c G g I) (hi : i + 6 ≤ G.1.2.1) (hl : G.1.2.1 ≤ 384) (kk : ∀ g' J, Inv (c + 1) G g' J → Rl 153 M_L_law 1495 (LL i) [] g' J K) : Rl 153 M_L_law 542 (LL i) [] g I K := by
  obtain ⟨N, M, So, Si, Pl, Th, He, Wt, T, n, tn, n2, tn2, w, z, kept, hH, hC, hM, hO⟩ := hI
  have G0 := hH.1
  have hg := hH.2.1
  obtain ⟨ok, okw, okk, oks, okh, okt, hw60, h1556⟩ := id hO
  have n14 : n ≤ 14 := ok.2.1
  have m14 : kept = true → n2 ≤ 14 := fun k => (okk k).1.2.1
  have a0 : isAg g 0 9 11 := ga G0 (by decide) rfl
  have a1 : isAg g 101 10 31 := ga G0 (by decide) rfl
  obtain ⟨c1, c2, c3, c4, c5, c6, c7⟩ := id hC
  obtain ⟨tr, htr, h9, _⟩ := id okw
  unfold LL
  repeat' (first
    | ((first | refine T_aload_n (pc1 := 543) (pc := 542) k_L_law_542 rfl rfl ?_ | refine T_aload_nN (pc1 := 543) (pc := 542) k_L_law_542 rfl rfl ?_) <;> try ((first | refine T_aload_n (pc1 := 544) (pc := 543) k_L_law_543 rfl rfl ?_ | refine T_aload_nN (pc1 := 544) (pc := 543) k_L_law_543 rfl rfl ?_) <;> try (refine T_iload_n (pc1 := 545) (pc := 544) k_L_law_544 rfl rfl ?_ <;> try (refine T_iconst (v := (nI 1)) (pc1 := 546) (pc := 545) k_L_law_545 rfl (by decide) ?_ <;> try ((first | with_reducible refine T_iaddN (pc1 := 547) (pc := 546) k_L_law_546 (by decide) ?_ | refine T_iadd (pc1 := 547) (pc := 546) k_L_law_546 rfl ?_) <;> try (refine T_scN (pc1 := 548) (pc := 547) k_L_law_547 rfl (by assumption) (by omega) (by omega) ?_))))))
    | refine T_aload_n (pc1 := 544) (pc := 543) k_L_law_543 rfl rfl ?_
    | refine T_aload_nN (pc1 := 544) (pc := 543) k_L_law_543 rfl rfl ?_
    | refine T_iload_n (pc1 := 545) (pc := 544) k_L_law_544 rfl rfl ?_
    | refine T_iconst (v := (nI 1)) (pc1 := 546) (pc := 545) k_L_law_545 rfl (by decide) ?_
    | with_reducible refine T_iaddN (pc1 := 547) (pc := 546) k_L_law_546 (by decide) ?_
    | refine T_iadd (pc1 := 547) (pc := 546) k_L_law_546 rfl ?_
    | refine T_scN (pc1 := 548) (pc := 547) k_L_law_547 rfl (by assumption) (by omega) (by omega) ?_)
  obtain ⟨x102, x103, xk, xSo, xSi, xPl, xTh, xHe, xWt, xw, xT, xz⟩ := id hM
  (refine T_cV (As := [_]) (d1 := 3) (pc1 := 551) (pc := 548) k_L_law_548 rfl (by decide) (Nat.le_of_ble_eq_true rfl) rfl o_S_tried l_L_57 rfl (by assumption) rfl (c_S_tried G0 okw c1 ?_) <;> try dsimp only [psh])
  repeat' (first
    | ((first | refine T_aload_n (pc1 := 552) (pc := 551) k_L_law_551 rfl rfl ?_ | refine T_aload_nN (pc1 := 552) (pc := 551) k_L_law_551 rfl rfl ?_) <;> try ((first | refine T_aload_n (pc1 := 553) (pc := 552) k_L_law_552 rfl rfl ?_ | refine T_aload_nN (pc1 := 553) (pc := 552) k_L_law_552 rfl rfl ?_) <;> try (refine T_iload_n (pc1 := 554) (pc := 553) k_L_law_553 rfl rfl ?_ <;> try (refine T_iconst (v := (nI 1)) (pc1 := 555) (pc := 554) k_L_law_554 rfl (by decide) ?_ <;> try ((first | with_reducible refine T_iaddN (pc1 := 556) (pc := 555) k_L_law_555 (by decide) ?_ | refine T_iadd (pc1 := 556) (pc := 555) k_L_law_555 rfl ?_) <;> try (refine T_scN (pc1 := 557) (pc := 556) k_L_law_556 rfl (by assumption) (by omega) (by omega) ?_))))))
    | refine T_aload_n (pc1 := 553) (pc := 552) k_L_law_552 rfl rfl ?_
    | refine T_aload_nN (pc1 := 553) (pc := 552) k_L_law_552 rfl rfl ?_
    | refine T_iload_n (pc1 := 554) (pc := 553) k_L_law_553 rfl rfl ?_
    | refine T_iconst (v := (nI 1)) (pc1 := 555) (pc := 554) k_L_law_554 rfl (by decide) ?_
    | with_reducible refine T_iaddN (pc1 := 556) (pc := 555) k_L_law_555 (by decide) ?_
    | refine T_iadd (pc1 := 556) (pc := 555) k_L_law_555 rfl ?_
    | refine T_scN (pc1 := 557) (pc := 556) k_L_law_556 rfl (by assumption) (by omega) (by omega) ?_)
  (refine T_cV (As := [_]) (d1 := 2) (pc1 := 560) (pc := 557) k_L_law_557 rfl (by decide) (Nat.le_of_ble_eq_true rfl) rfl o_M_tried l_L_60 rfl (by assumption) rfl (c_M_tried G0 x102 h9 htr ?_) <;> try dsimp only [psh])
  refine T_icmp_eq_t k_L_law_560 rfl rfl ?_
  exact kk g I ⟨N, M, So, Si, Pl, Th, He, Wt, T, n, tn, n2, tn2, w, z, kept, HI_s hH, hC, hM, hO⟩
theorem cs_loses (hI : Inv c G g I) (hi : i + 6 ≤ G.1.2.1) (hl : G.1.2.1 ≤ 384) (kk : ∀ g' J, Inv (c + 1) G g' J → Rl 153 M_L_law 1495 (LL i) [] g' J K) : Rl 153 M_L_law 611 (LL i) [] g I K := by
  obtain ⟨N, M, So, Si, Pl, Th, He, Wt, T, n, tn, n2, tn2, w, z, kept, hH, hC, hM, hO⟩ := hI
  have G0 := hH.1
  have hg := hH.2.1
  obtain ⟨ok, okw, okk, oks, okh, okt, hw60, h1556⟩ := id hO
  have n14 : n ≤ 14 := ok.2.1
  have m14 : kept = true → n2 ≤ 14 := fun k => (okk k).1.2.1
  have a0 : isAg g 0 9 11 := ga G0 (by decide) rfl
  have a1 : isAg g 101 10 31 := ga G0 (by decide) rfl
  obtain ⟨c1, c2, c3, c4, c5, c6, c7⟩ := id hC
  unfold LL
  repeat' (first
    | ((first | refine T_aload_n (pc1 := 612) (pc := 611) k_L_law_611 rfl rfl ?_ | refine T_aload_nN (pc1 := 612) (pc := 611) k_L_law_611 rfl rfl ?_) <;> try ((first | refine T_aload_n (pc1 := 613) (pc := 612) k_L_law_612 rfl rfl ?_ | refine T_aload_nN (pc1 := 613) (pc := 612) k_L_law_612 rfl rfl ?_) <;> try (refine T_iload_n (pc1 := 614) (pc := 613) k_L_law_613 rfl rfl ?_ <;> try (refine T_iconst (v := (nI 1)) (pc1 := 615) (pc := 614) k_L_law_614 rfl (by decide) ?_ <;> try ((first | with_reducible refine T_iaddN (pc1 := 616) (pc := 615) k_L_law_615 (by decide) ?_ | refine T_iadd (pc1 := 616) (pc := 615) k_L_law_615 rfl ?_) <;> try (refine T_scN (pc1 := 617) (pc := 616) k_L_law_616 rfl (by assumption) (by omega) (by omega) ?_ <;> try ((first | refine T_aload_n (pc1 := 618) (pc := 617) k_L_law_617 rfl rfl ?_ | refine T_aload_nN (pc1 := 618) (pc := 617) k_L_law_617 rfl rfl ?_) <;> try (refine T_iload_n (pc1 := 619) (pc := 618) k_L_law_618 rfl rfl ?_ <;> try (refine T_iconst (v := (nI 2)) (pc1 := 620) (pc := 619) k_L_law_619 rfl (by decide) ?_ <;> try ((first | with_reducible refine T_iaddN (pc1 := 621) (pc := 620) k_L_law_620 (by decide) ?_ | refine T_iadd (pc1 := 621) (pc := 620) k_L_law_620 rfl ?_) <;> try (refine T_scN (pc1 := 622) (pc := 621) k_L_law_621 rfl (by assumption) (by omega) (by omega) ?_)))))))))))
    | refine T_aload_n (pc1 := 613) (pc := 612) k_L_law_612 rfl rfl ?_
    | refine T_aload_nN (pc1 := 613) (pc := 612) k_L_law_612 rfl rfl ?_
    | refine T_iload_n (pc1 := 614) (pc := 613) k_L_law_613 rfl rfl ?_
    | refine T_iconst (v := (nI 1)) (pc1 := 615) (pc := 614) k_L_law_614 rfl (by decide) ?_
    | with_reducible refine T_iaddN (pc1 := 616) (pc := 615) k_L_law_615 (by decide) ?_
    | refine T_iadd (pc1 := 616) (pc := 615) k_L_law_615 rfl ?_
    | refine T_scN (pc1 := 617) (pc := 616) k_L_law_616 rfl (by assumption) (by omega) (by omega) ?_
    | refine T_aload_n (pc1 := 618) (pc := 617) k_L_law_617 rfl rfl ?_
    | refine T_aload_nN (pc1 := 618) (pc := 617) k_L_law_617 rfl rfl ?_
    | refine T_iload_n (pc1 := 619) (pc := 618) k_L_law_618 rfl rfl ?_
    | refine T_iconst (v := (nI 2)) (pc1 := 620) (pc := 619) k_L_law_619 rfl (by decide) ?_
    | with_reducible refine T_iaddN (pc1 := 621) (pc := 620) k_L_law_620 (by decide) ?_
    | refine T_iadd (pc1 := 621) (pc := 620) k_L_law_620 rfl ?_
    | refine T_scN (pc1 := 622) (pc := 621) k_L_law_621 rfl (by assumption) (by omega) (by omega) ?_)
  (refine T_cV (As := [_, _]) (d1 := 7) (pc1 := 625) (pc := 622) k_L_law_622 rfl (by decide) (Nat.le_of_ble_eq_true rfl) rfl o_S_loses l_L_70 rfl (by assumption) rfl (c_S_loses G0 ok okw c1 fun g1 J1 r1 G1 s1 f1 e1 => ?_) <;> try dsimp only [psh])
  have hg1 : g1.1 = G.1 := s1.1.trans hg
  have b1 : isAg g1 101 10 31 := ga G1 (by decide) rfl
  have C1 := CI_fr (r := 43) hC m14 s1 (by omega) (by omega) f1 (fun i hi => Or.inr hi) (LR_fr (r := 43) c1 n14 s1 (by omega) (by omega) f1 (fun i h1 h2 => tf_l1 h1 h2) (fun i hi => tf_121 (Or.inr hi)))
  have M1 := MI_fr hM f1 (fun i h1 h2 h3 => tf_mod h1 h2 (Or.inr h3))
  obtain ⟨x102, x103, xk, xSo, xSi, xPl, xTh, xHe, xWt, xw, xT, xz⟩ := id M1
  repeat' (first
    | ((first | refine T_aload_n (pc1 := 626) (pc := 625) k_L_law_625 rfl rfl ?_ | refine T_aload_nN (pc1 := 626) (pc := 625) k_L_law_625 rfl rfl ?_) <;> try ((first | refine T_aload_n (pc1 := 627) (pc := 626) k_L_law_626 rfl rfl ?_ | refine T_aload_nN (pc1 := 627) (pc := 626) k_L_law_626 rfl rfl ?_) <;> try (refine T_iload_n (pc1 := 628) (pc := 627) k_L_law_627 rfl rfl ?_ <;> try (refine T_iconst (v := (nI 1)) (pc1 := 629) (pc := 628) k_L_law_628 rfl (by decide) ?_ <;> try ((first | with_reducible refine T_iaddN (pc1 := 630) (pc := 629) k_L_law_629 (by decide) ?_ | refine T_iadd (pc1 := 630) (pc := 629) k_L_law_629 rfl ?_) <;> try (refine T_scN (pc1 := 631) (pc := 630) k_L_law_630 rfl (by assumption) (by omega) (by omega) ?_ <;> try ((first | refine T_aload_n (pc1 := 632) (pc := 631) k_L_law_631 rfl rfl ?_ | refine T_aload_nN (pc1 := 632) (pc := 631) k_L_law_631 rfl rfl ?_) <;> try (refine T_iload_n (pc1 := 633) (pc := 632) k_L_law_632 rfl rfl ?_ <;> try (refine T_iconst (v := (nI 2)) (pc1 := 634) (pc := 633) k_L_law_633 rfl (by decide) ?_ <;> try ((first | with_reducible refine T_iaddN (pc1 := 635) (pc := 634) k_L_law_634 (by decide) ?_ | refine T_iadd (pc1 := 635) (pc := 634) k_L_law_634 rfl ?_) <;> try (refine T_scN (pc1 := 636) (pc := 635) k_L_law_635 rfl (by assumption) (by omega) (by omega) ?_)))))))))))
    | refine T_aload_n (pc1 := 627) (pc := 626) k_L_law_626 rfl rfl ?_
    | refine T_aload_nN (pc1 := 627) (pc := 626) k_L_law_626 rfl rfl ?_
    | refine T_iload_n (pc1 := 628) (pc := 627) k_L_law_627 rfl rfl ?_
    | refine T_iconst (v := (nI 1)) (pc1 := 629) (pc := 628) k_L_law_628 rfl (by decide) ?_
    | with_reducible refine T_iaddN (pc1 := 630) (pc := 629) k_L_law_629 (by decide) ?_
    | refine T_iadd (pc1 := 630) (pc := 629) k_L_law_629 rfl ?_
    | refine T_scN (pc1 := 631) (pc := 630) k_L_law_630 rfl (by assumption) (by omega) (by omega) ?_
    | refine T_aload_n (pc1 := 632) (pc := 631) k_L_law_631 rfl rfl ?_
    | refine T_aload_nN (pc1 := 632) (pc := 631) k_L_law_631 rfl rfl ?_
    | refine T_iload_n (pc1 := 633) (pc := 632) k_L_law_632 rfl rfl ?_
    | refine T_iconst (v := (nI 2)) (pc1 := 634) (pc := 633) k_L_law_633 rfl (by decide) ?_
    | with_reducible refine T_iaddN (pc1 := 635) (pc := 634) k_L_law_634 (by decide) ?_
    | refine T_iadd (pc1 := 635) (pc := 634) k_L_law_634 rfl ?_
    | refine T_scN (pc1 := 636) (pc := 635) k_L_law_635 rfl (by assumption) (by omega) (by omega) ?_)
  (refine T_cV (As := [_, _]) (d1 := 7) (pc1 := 639) (pc := 636) k_L_law_636 rfl (by decide) (Nat.le_of_ble_eq_true rfl) rfl o_M_loses l_L_73 rfl (by assumption) rfl (c_M_loses G1 x102 ok fun J2 r2 f2 e2 => ?_) <;> try dsimp only [psh])
  refine T_icmp_eq_t k_L_law_639 rfl (e1.trans e2.symm) ?_
  exact kk g1 J2 ⟨N, M, So, Si, Pl, Th, He, Wt, T, n, tn, n2, tn2, w, z, kept, HI_GS hH G1 s1, CI_mo C1 n14 m14 (eqx_fre f2 (by decide)), MI_q M1 f2 (by decide), hO⟩
theorem cs_behind (hI : Inv c G g I) (hi : i + 6 ≤ G.1.2.1) (hl : G.1.2.1 ≤ 384) (kk : ∀ g' J, Inv (c + 1) G g' J → Rl 153 M_L_law 1495 (LL i) [] g' J K) : Rl 153 M_L_law 644 (LL i) [] g I K := by
  obtain ⟨N, M, So, Si, Pl, Th, He, Wt, T, n, tn, n2, tn2, w, z, kept, hH, hC, hM, hO⟩ := hI
  have G0 := hH.1
  have hg := hH.2.1
  obtain ⟨ok, okw, okk, oks, okh, okt, hw60, h1556⟩ := id hO
  have n14 : n ≤ 14 := ok.2.1
  have m14 : kept = true → n2 ≤ 14 := fun k => (okk k).1.2.1
  have a0 : isAg g 0 9 11 := ga G0 (by decide) rfl
  have a1 : isAg g 101 10 31 := ga G0 (by decide) rfl
  obtain ⟨c1, c2, c3, c4, c5, c6, c7⟩ := id hC
  unfold LL
  repeat' (first
    | ((first | refine T_aload_n (pc1 := 645) (pc := 644) k_L_law_644 rfl rfl ?_ | refine T_aload_nN (pc1 := 645) (pc := 644) k_L_law_644 rfl rfl ?_) <;> try ((first | refine T_aload_n (pc1 := 646) (pc := 645) k_L_law_645 rfl rfl ?_ | refine T_aload_nN (pc1 := 646) (pc := 645) k_L_law_645 rfl rfl ?_) <;> try (refine T_iload_n (pc1 := 647) (pc := 646) k_L_law_646 rfl rfl ?_ <;> try (refine T_iconst (v := (nI 1)) (pc1 := 648) (pc := 647) k_L_law_647 rfl (by decide) ?_ <;> try ((first | with_reducible refine T_iaddN (pc1 := 649) (pc := 648) k_L_law_648 (by decide) ?_ | refine T_iadd (pc1 := 649) (pc := 648) k_L_law_648 rfl ?_) <;> try (refine T_scN (pc1 := 650) (pc := 649) k_L_law_649 rfl (by assumption) (by omega) (by omega) ?_ <;> try ((first | refine T_aload_n (pc1 := 651) (pc := 650) k_L_law_650 rfl rfl ?_ | refine T_aload_nN (pc1 := 651) (pc := 650) k_L_law_650 rfl rfl ?_) <;> try (refine T_iload_n (pc1 := 652) (pc := 651) k_L_law_651 rfl rfl ?_ <;> try (refine T_iconst (v := (nI 2)) (pc1 := 653) (pc := 652) k_L_law_652 rfl (by decide) ?_ <;> try ((first | with_reducible refine T_iaddN (pc1 := 654) (pc := 653) k_L_law_653 (by decide) ?_ | refine T_iadd (pc1 := 654) (pc := 653) k_L_law_653 rfl ?_) <;> try (refine T_scN (pc1 := 655) (pc := 654) k_L_law_654 rfl (by assumption) (by omega) (by omega) ?_ <;> try ((first | refine T_aload_n (pc1 := 656) (pc := 655) k_L_law_655 rfl rfl ?_ | refine T_aload_nN (pc1 := 656) (pc := 655) k_L_law_655 rfl rfl ?_) <;> try (refine T_iload_n (pc1 := 657) (pc := 656) k_L_law_656 rfl rfl ?_ <;> try (refine T_iconst (v := (nI 3)) (pc1 := 658) (pc := 657) k_L_law_657 rfl (by decide) ?_))))))))))))))
    | ((first | with_reducible refine T_iaddN (pc1 := 659) (pc := 658) k_L_law_658 (by decide) ?_ | refine T_iadd (pc1 := 659) (pc := 658) k_L_law_658 rfl ?_) <;> try (refine T_scN (pc1 := 660) (pc := 659) k_L_law_659 rfl (by assumption) (by omega) (by omega) ?_))
    | refine T_aload_n (pc1 := 646) (pc := 645) k_L_law_645 rfl rfl ?_
    | refine T_aload_nN (pc1 := 646) (pc := 645) k_L_law_645 rfl rfl ?_
    | refine T_iload_n (pc1 := 647) (pc := 646) k_L_law_646 rfl rfl ?_
    | refine T_iconst (v := (nI 1)) (pc1 := 648) (pc := 647) k_L_law_647 rfl (by decide) ?_
    | with_reducible refine T_iaddN (pc1 := 649) (pc := 648) k_L_law_648 (by decide) ?_
    | refine T_iadd (pc1 := 649) (pc := 648) k_L_law_648 rfl ?_
    | refine T_scN (pc1 := 650) (pc := 649) k_L_law_649 rfl (by assumption) (by omega) (by omega) ?_
    | refine T_aload_n (pc1 := 651) (pc := 650) k_L_law_650 rfl rfl ?_
    | refine T_aload_nN (pc1 := 651) (pc := 650) k_L_law_650 rfl rfl ?_
    | refine T_iload_n (pc1 := 652) (pc := 651) k_L_law_651 rfl rfl ?_
    | refine T_iconst (v := (nI 2)) (pc1 := 653) (pc := 652) k_L_law_652 rfl (by decide) ?_
    | with_reducible refine T_iaddN (pc1 := 654) (pc := 653) k_L_law_653 (by decide) ?_
    | refine T_iadd (pc1 := 654) (pc := 653) k_L_law_653 rfl ?_
    | refine T_scN (pc1 := 655) (pc := 654) k_L_law_654 rfl (by assumption) (by omega) (by omega) ?_
    | refine T_aload_n (pc1 := 656) (pc := 655) k_L_law_655 rfl rfl ?_
    | refine T_aload_nN (pc1 := 656) (pc := 655) k_L_law_655 rfl rfl ?_
    | refine T_iload_n (pc1 := 657) (pc := 656) k_L_law_656 rfl rfl ?_
    | refine T_iconst (v := (nI 3)) (pc1 := 658) (pc := 657) k_L_law_657 rfl (by decide) ?_
    | refine T_scN (pc1 := 660) (pc := 659) k_L_law_659 rfl (by assumption) (by omega) (by omega) ?_)
  (refine T_cV (As := [_, _, _]) (d1 := 7) (pc1 := 663) (pc := 660) k_L_law_660 rfl (by decide) (Nat.le_of_ble_eq_true rfl) rfl o_S_behind l_L_74 rfl (by assumption) rfl (c_S_behind G0 ok okw c1 fun g1 J1 r1 G1 s1 f1 e1 => ?_) <;> try dsimp only [psh])
  have hg1 : g1.1 = G.1 := s1.1.trans hg
  have b1 : isAg g1 101 10 31 := ga G1 (by decide) rfl
  have C1 := CI_fr (r := 43) hC m14 s1 (by omega) (by omega) f1 (fun i hi => Or.inr hi) (LR_fr (r := 43) c1 n14 s1 (by omega) (by omega) f1 (fun i h1 h2 => tf_l1 h1 h2) (fun i hi => tf_121 (Or.inr hi)))
  have M1 := MI_fr hM f1 (fun i h1 h2 h3 => tf_mod h1 h2 (Or.inr h3))
  obtain ⟨x102, x103, xk, xSo, xSi, xPl, xTh, xHe, xWt, xw, xT, xz⟩ := id M1
  repeat' (first
    | ((first | refine T_aload_n (pc1 := 664) (pc := 663) k_L_law_663 rfl rfl ?_ | refine T_aload_nN (pc1 := 664) (pc := 663) k_L_law_663 rfl rfl ?_) <;> try ((first | refine T_aload_n (pc1 := 665) (pc := 664) k_L_law_664 rfl rfl ?_ | refine T_aload_nN (pc1 := 665) (pc := 664) k_L_law_664 rfl rfl ?_) <;> try (refine T_iload_n (pc1 := 666) (pc := 665) k_L_law_665 rfl rfl ?_ <;> try (refine T_iconst (v := (nI 1)) (pc1 := 667) (pc := 666) k_L_law_666 rfl (by decide) ?_ <;> try ((first | with_reducible refine T_iaddN (pc1 := 668) (pc := 667) k_L_law_667 (by decide) ?_ | refine T_iadd (pc1 := 668) (pc := 667) k_L_law_667 rfl ?_) <;> try (refine T_scN (pc1 := 669) (pc := 668) k_L_law_668 rfl (by assumption) (by omega) (by omega) ?_ <;> try ((first | refine T_aload_n (pc1 := 670) (pc := 669) k_L_law_669 rfl rfl ?_ | refine T_aload_nN (pc1 := 670) (pc := 669) k_L_law_669 rfl rfl ?_) <;> try (refine T_iload_n (pc1 := 671) (pc := 670) k_L_law_670 rfl rfl ?_ <;> try (refine T_iconst (v := (nI 2)) (pc1 := 672) (pc := 671) k_L_law_671 rfl (by decide) ?_ <;> try ((first | with_reducible refine T_iaddN (pc1 := 673) (pc := 672) k_L_law_672 (by decide) ?_ | refine T_iadd (pc1 := 673) (pc := 672) k_L_law_672 rfl ?_) <;> try (refine T_scN (pc1 := 674) (pc := 673) k_L_law_673 rfl (by assumption) (by omega) (by omega) ?_ <;> try ((first | refine T_aload_n (pc1 := 675) (pc := 674) k_L_law_674 rfl rfl ?_ | refine T_aload_nN (pc1 := 675) (pc := 674) k_L_law_674 rfl rfl ?_) <;> try (refine T_iload_n (pc1 := 676) (pc := 675) k_L_law_675 rfl rfl ?_ <;> try (refine T_iconst (v := (nI 3)) (pc1 := 677) (pc := 676) k_L_law_676 rfl (by decide) ?_))))))))))))))
    | ((first | with_reducible refine T_iaddN (pc1 := 678) (pc := 677) k_L_law_677 (by decide) ?_ | refine T_iadd (pc1 := 678) (pc := 677) k_L_law_677 rfl ?_) <;> try (refine T_scN (pc1 := 679) (pc := 678) k_L_law_678 rfl (by assumption) (by omega) (by omega) ?_))
    | refine T_aload_n (pc1 := 665) (pc := 664) k_L_law_664 rfl rfl ?_
    | refine T_aload_nN (pc1 := 665) (pc := 664) k_L_law_664 rfl rfl ?_
    | refine T_iload_n (pc1 := 666) (pc := 665) k_L_law_665 rfl rfl ?_
    | refine T_iconst (v := (nI 1)) (pc1 := 667) (pc := 666) k_L_law_666 rfl (by decide) ?_
    | with_reducible refine T_iaddN (pc1 := 668) (pc := 667) k_L_law_667 (by decide) ?_
    | refine T_iadd (pc1 := 668) (pc := 667) k_L_law_667 rfl ?_
    | refine T_scN (pc1 := 669) (pc := 668) k_L_law_668 rfl (by assumption) (by omega) (by omega) ?_
    | refine T_aload_n (pc1 := 670) (pc := 669) k_L_law_669 rfl rfl ?_
    | refine T_aload_nN (pc1 := 670) (pc := 669) k_L_law_669 rfl rfl ?_
    | refine T_iload_n (pc1 := 671) (pc := 670) k_L_law_670 rfl rfl ?_
    | refine T_iconst (v := (nI 2)) (pc1 := 672) (pc := 671) k_L_law_671 rfl (by decide) ?_
    | with_reducible refine T_iaddN (pc1 := 673) (pc := 672) k_L_law_672 (by decide) ?_
    | refine T_iadd (pc1 := 673) (pc := 672) k_L_law_672 rfl ?_
    | refine T_scN (pc1 := 674) (pc := 673) k_L_law_673 rfl (by assumption) (by omega) (by omega) ?_
    | refine T_aload_n (pc1 := 675) (pc := 674) k_L_law_674 rfl rfl ?_
    | refine T_aload_nN (pc1 := 675) (pc := 674) k_L_law_674 rfl rfl ?_
    | refine T_iload_n (pc1 := 676) (pc := 675) k_L_law_675 rfl rfl ?_
    | refine T_iconst (v := (nI 3)) (pc1 := 677) (pc := 676) k_L_law_676 rfl (by decide) ?_
    | refine T_scN (pc1 := 679) (pc := 678) k_L_law_678 rfl (by assumption) (by omega) (by omega) ?_)
  (refine T_cV (As := [_, _, _]) (d1 := 7) (pc1 := 682) (pc := 679) k_L_law_679 rfl (by decide) (Nat.le_of_ble_eq_true rfl) rfl o_M_behind l_L_77 rfl (by assumption) rfl (c_M_behind G1 x102 ok fun J2 r2 f2 e2 => ?_) <;> try dsimp only [psh])
  refine T_icmp_eq_t k_L_law_682 rfl (e1.trans e2.symm) ?_
  exact kk g1 J2 ⟨N, M, So, Si, Pl, Th, He, Wt, T, n, tn, n2, tn2, w, z, kept, HI_GS hH G1 s1, CI_mo C1 n14 m14 (eqx_fre f2 (by decide)), MI_q M1 f2 (by decide), hO⟩
theorem cs_same (hI : Inv c G g I) (hi : i + 6 ≤ G.1.2.1) (hl : G.1.2.1 ≤ 384) (kk : ∀ g' J, Inv (c + 1) G g' J → Rl 153 M_L_law 1495 (LL i) [] g' J K) : Rl 153 M_L_law 687 (LL i) [] g I K := by
  obtain ⟨N, M, So, Si, Pl, Th, He, Wt, T, n, tn, n2, tn2, w, z, kept, hH, hC, hM, hO⟩ := hI
  have G0 := hH.1
  have hg := hH.2.1
  obtain ⟨ok, okw, okk, oks, okh, okt, hw60, h1556⟩ := id hO
  have n14 : n ≤ 14 := ok.2.1
  have m14 : kept = true → n2 ≤ 14 := fun k => (okk k).1.2.1
  have a0 : isAg g 0 9 11 := ga G0 (by decide) rfl
  have a1 : isAg g 101 10 31 := ga G0 (by decide) rfl
  obtain ⟨c1, c2, c3, c4, c5, c6, c7⟩ := id hC
  unfold LL
  repeat' (first
    | ((first | refine T_aload_n (pc1 := 688) (pc := 687) k_L_law_687 rfl rfl ?_ | refine T_aload_nN (pc1 := 688) (pc := 687) k_L_law_687 rfl rfl ?_) <;> try ((first | refine T_aload_n (pc1 := 689) (pc := 688) k_L_law_688 rfl rfl ?_ | refine T_aload_nN (pc1 := 689) (pc := 688) k_L_law_688 rfl rfl ?_) <;> try (refine T_iload_n (pc1 := 690) (pc := 689) k_L_law_689 rfl rfl ?_ <;> try (refine T_iconst (v := (nI 1)) (pc1 := 691) (pc := 690) k_L_law_690 rfl (by decide) ?_ <;> try ((first | with_reducible refine T_iaddN (pc1 := 692) (pc := 691) k_L_law_691 (by decide) ?_ | refine T_iadd (pc1 := 692) (pc := 691) k_L_law_691 rfl ?_) <;> try (refine T_scN (pc1 := 693) (pc := 692) k_L_law_692 rfl (by assumption) (by omega) (by omega) ?_ <;> try ((first | refine T_aload_n (pc1 := 694) (pc := 693) k_L_law_693 rfl rfl ?_ | refine T_aload_nN (pc1 := 694) (pc := 693) k_L_law_693 rfl rfl ?_) <;> try (refine T_iload_n (pc1 := 695) (pc := 694) k_L_law_694 rfl rfl ?_ <;> try (refine T_iconst (v := (nI 2)) (pc1 := 696) (pc := 695) k_L_law_695 rfl (by decide) ?_ <;> try ((first | with_reducible refine T_iaddN (pc1 := 697) (pc := 696) k_L_law_696 (by decide) ?_ | refine T_iadd (pc1 := 697) (pc := 696) k_L_law_696 rfl ?_) <;> try (refine T_scN (pc1 := 698) (pc := 697) k_L_law_697 rfl (by assumption) (by omega) (by omega) ?_)))))))))))
    | refine T_aload_n (pc1 := 689) (pc := 688) k_L_law_688 rfl rfl ?_
    | refine T_aload_nN (pc1 := 689) (pc := 688) k_L_law_688 rfl rfl ?_
    | refine T_iload_n (pc1 := 690) (pc := 689) k_L_law_689 rfl rfl ?_
    | refine T_iconst (v := (nI 1)) (pc1 := 691) (pc := 690) k_L_law_690 rfl (by decide) ?_
    | with_reducible refine T_iaddN (pc1 := 692) (pc := 691) k_L_law_691 (by decide) ?_
    | refine T_iadd (pc1 := 692) (pc := 691) k_L_law_691 rfl ?_
    | refine T_scN (pc1 := 693) (pc := 692) k_L_law_692 rfl (by assumption) (by omega) (by omega) ?_
    | refine T_aload_n (pc1 := 694) (pc := 693) k_L_law_693 rfl rfl ?_
    | refine T_aload_nN (pc1 := 694) (pc := 693) k_L_law_693 rfl rfl ?_
    | refine T_iload_n (pc1 := 695) (pc := 694) k_L_law_694 rfl rfl ?_
    | refine T_iconst (v := (nI 2)) (pc1 := 696) (pc := 695) k_L_law_695 rfl (by decide) ?_
    | with_reducible refine T_iaddN (pc1 := 697) (pc := 696) k_L_law_696 (by decide) ?_
    | refine T_iadd (pc1 := 697) (pc := 696) k_L_law_696 rfl ?_
    | refine T_scN (pc1 := 698) (pc := 697) k_L_law_697 rfl (by assumption) (by omega) (by omega) ?_)
  (refine T_cV (As := [_, _]) (d1 := 7) (pc1 := 701) (pc := 698) k_L_law_698 rfl (by decide) (Nat.le_of_ble_eq_true rfl) rfl o_S_same l_L_78 rfl (by assumption) rfl (c_S_same G0 ok okw c1 fun g1 J1 r1 G1 s1 f1 e1 => ?_) <;> try dsimp only [psh])
  have hg1 : g1.1 = G.1 := s1.1.trans hg
  have b1 : isAg g1 101 10 31 := ga G1 (by decide) rfl
  have C1 := CI_fr (r := 43) hC m14 s1 (by omega) (by omega) f1 (fun i hi => Or.inr hi) (LR_fr (r := 43) c1 n14 s1 (by omega) (by omega) f1 (fun i h1 h2 => tf_l1 h1 h2) (fun i hi => tf_121 (Or.inr hi)))
  have M1 := MI_fr hM f1 (fun i h1 h2 h3 => tf_mod h1 h2 (Or.inr h3))
  obtain ⟨x102, x103, xk, xSo, xSi, xPl, xTh, xHe, xWt, xw, xT, xz⟩ := id M1
  repeat' (first
    | ((first | refine T_aload_n (pc1 := 702) (pc := 701) k_L_law_701 rfl rfl ?_ | refine T_aload_nN (pc1 := 702) (pc := 701) k_L_law_701 rfl rfl ?_) <;> try ((first | refine T_aload_n (pc1 := 703) (pc := 702) k_L_law_702 rfl rfl ?_ | refine T_aload_nN (pc1 := 703) (pc := 702) k_L_law_702 rfl rfl ?_) <;> try (refine T_iload_n (pc1 := 704) (pc := 703) k_L_law_703 rfl rfl ?_ <;> try (refine T_iconst (v := (nI 1)) (pc1 := 705) (pc := 704) k_L_law_704 rfl (by decide) ?_ <;> try ((first | with_reducible refine T_iaddN (pc1 := 706) (pc := 705) k_L_law_705 (by decide) ?_ | refine T_iadd (pc1 := 706) (pc := 705) k_L_law_705 rfl ?_) <;> try (refine T_scN (pc1 := 707) (pc := 706) k_L_law_706 rfl (by assumption) (by omega) (by omega) ?_ <;> try ((first | refine T_aload_n (pc1 := 708) (pc := 707) k_L_law_707 rfl rfl ?_ | refine T_aload_nN (pc1 := 708) (pc := 707) k_L_law_707 rfl rfl ?_) <;> try (refine T_iload_n (pc1 := 709) (pc := 708) k_L_law_708 rfl rfl ?_ <;> try (refine T_iconst (v := (nI 2)) (pc1 := 710) (pc := 709) k_L_law_709 rfl (by decide) ?_ <;> try ((first | with_reducible refine T_iaddN (pc1 := 711) (pc := 710) k_L_law_710 (by decide) ?_ | refine T_iadd (pc1 := 711) (pc := 710) k_L_law_710 rfl ?_) <;> try (refine T_scN (pc1 := 712) (pc := 711) k_L_law_711 rfl (by assumption) (by omega) (by omega) ?_)))))))))))
    | refine T_aload_n (pc1 := 703) (pc := 702) k_L_law_702 rfl rfl ?_
    | refine T_aload_nN (pc1 := 703) (pc := 702) k_L_law_702 rfl rfl ?_
    | refine T_iload_n (pc1 := 704) (pc := 703) k_L_law_703 rfl rfl ?_
    | refine T_iconst (v := (nI 1)) (pc1 := 705) (pc := 704) k_L_law_704 rfl (by decide) ?_
    | with_reducible refine T_iaddN (pc1 := 706) (pc := 705) k_L_law_705 (by decide) ?_
    | refine T_iadd (pc1 := 706) (pc := 705) k_L_law_705 rfl ?_
    | refine T_scN (pc1 := 707) (pc := 706) k_L_law_706 rfl (by assumption) (by omega) (by omega) ?_
    | refine T_aload_n (pc1 := 708) (pc := 707) k_L_law_707 rfl rfl ?_
    | refine T_aload_nN (pc1 := 708) (pc := 707) k_L_law_707 rfl rfl ?_
    | refine T_iload_n (pc1 := 709) (pc := 708) k_L_law_708 rfl rfl ?_
    | refine T_iconst (v := (nI 2)) (pc1 := 710) (pc := 709) k_L_law_709 rfl (by decide) ?_
    | with_reducible refine T_iaddN (pc1 := 711) (pc := 710) k_L_law_710 (by decide) ?_
    | refine T_iadd (pc1 := 711) (pc := 710) k_L_law_710 rfl ?_
    | refine T_scN (pc1 := 712) (pc := 711) k_L_law_711 rfl (by assumption) (by omega) (by omega) ?_)
  (refine T_cV (As := [_, _]) (d1 := 6) (pc1 := 715) (pc := 712) k_L_law_712 rfl (by decide) (Nat.le_of_ble_eq_true rfl) rfl o_M_same l_L_81 rfl (by assumption) rfl (c_M_same G1 x102 ok fun J2 r2 f2 e2 => ?_) <;> try dsimp only [psh])
  refine T_icmp_eq_t k_L_law_715 rfl (e1.trans e2.symm) ?_
  exact kk g1 J2 ⟨N, M, So, Si, Pl, Th, He, Wt, T, n, tn, n2, tn2, w, z, kept, HI_GS hH G1 s1, CI_mo C1 n14 m14 (eqx_fre f2 (by decide)), MI_q M1 f2 (by decide), hO⟩
theorem cs_look (hI : Inv c G g I) (hi : i + 6 ≤ G.1.2.1) (hl : G.1.2.1 ≤ 384) (kk : ∀ g' J, Inv (c + 1) G g' J → Rl 153 M_L_law 1495 (LL i) [] g' J K) : Rl 153 M_L_law 720 (LL i) [] g I K := by
  obtain ⟨N, M, So, Si, Pl, Th, He, Wt, T, n, tn, n2, tn2, w, z, kept, hH, hC, hM, hO⟩ := hI
  have G0 := hH.1
  have hg := hH.2.1
  obtain ⟨ok, okw, okk, oks, okh, okt, hw60, h1556⟩ := id hO
  have n14 : n ≤ 14 := ok.2.1
  have m14 : kept = true → n2 ≤ 14 := fun k => (okk k).1.2.1
  have a0 : isAg g 0 9 11 := ga G0 (by decide) rfl
  have a1 : isAg g 101 10 31 := ga G0 (by decide) rfl
  obtain ⟨c1, c2, c3, c4, c5, c6, c7⟩ := id hC
  unfold LL
  repeat' (first
    | ((first | refine T_aload_n (pc1 := 721) (pc := 720) k_L_law_720 rfl rfl ?_ | refine T_aload_nN (pc1 := 721) (pc := 720) k_L_law_720 rfl rfl ?_) <;> try ((first | refine T_aload_n (pc1 := 722) (pc := 721) k_L_law_721 rfl rfl ?_ | refine T_aload_nN (pc1 := 722) (pc := 721) k_L_law_721 rfl rfl ?_) <;> try (refine T_iload_n (pc1 := 723) (pc := 722) k_L_law_722 rfl rfl ?_ <;> try (refine T_iconst (v := (nI 1)) (pc1 := 724) (pc := 723) k_L_law_723 rfl (by decide) ?_ <;> try ((first | with_reducible refine T_iaddN (pc1 := 725) (pc := 724) k_L_law_724 (by decide) ?_ | refine T_iadd (pc1 := 725) (pc := 724) k_L_law_724 rfl ?_) <;> try (refine T_scN (pc1 := 726) (pc := 725) k_L_law_725 rfl (by assumption) (by omega) (by omega) ?_ <;> try ((first | refine T_aload_n (pc1 := 727) (pc := 726) k_L_law_726 rfl rfl ?_ | refine T_aload_nN (pc1 := 727) (pc := 726) k_L_law_726 rfl rfl ?_) <;> try (refine T_iload_n (pc1 := 728) (pc := 727) k_L_law_727 rfl rfl ?_ <;> try (refine T_iconst (v := (nI 2)) (pc1 := 729) (pc := 728) k_L_law_728 rfl (by decide) ?_ <;> try ((first | with_reducible refine T_iaddN (pc1 := 730) (pc := 729) k_L_law_729 (by decide) ?_ | refine T_iadd (pc1 := 730) (pc := 729) k_L_law_729 rfl ?_) <;> try (refine T_scN (pc1 := 731) (pc := 730) k_L_law_730 rfl (by assumption) (by omega) (by omega) ?_ <;> try ((first | refine T_aload_n (pc1 := 732) (pc := 731) k_L_law_731 rfl rfl ?_ | refine T_aload_nN (pc1 := 732) (pc := 731) k_L_law_731 rfl rfl ?_) <;> try (refine T_iload_n (pc1 := 733) (pc := 732) k_L_law_732 rfl rfl ?_ <;> try (refine T_iconst (v := (nI 3)) (pc1 := 734) (pc := 733) k_L_law_733 rfl (by decide) ?_))))))))))))))
    | ((first | with_reducible refine T_iaddN (pc1 := 735) (pc := 734) k_L_law_734 (by decide) ?_ | refine T_iadd (pc1 := 735) (pc := 734) k_L_law_734 rfl ?_) <;> try (refine T_scN (pc1 := 736) (pc := 735) k_L_law_735 rfl (by assumption) (by omega) (by omega) ?_))
    | refine T_aload_n (pc1 := 722) (pc := 721) k_L_law_721 rfl rfl ?_
    | refine T_aload_nN (pc1 := 722) (pc := 721) k_L_law_721 rfl rfl ?_
    | refine T_iload_n (pc1 := 723) (pc := 722) k_L_law_722 rfl rfl ?_
    | refine T_iconst (v := (nI 1)) (pc1 := 724) (pc := 723) k_L_law_723 rfl (by decide) ?_
    | with_reducible refine T_iaddN (pc1 := 725) (pc := 724) k_L_law_724 (by decide) ?_
    | refine T_iadd (pc1 := 725) (pc := 724) k_L_law_724 rfl ?_
    | refine T_scN (pc1 := 726) (pc := 725) k_L_law_725 rfl (by assumption) (by omega) (by omega) ?_
    | refine T_aload_n (pc1 := 727) (pc := 726) k_L_law_726 rfl rfl ?_
    | refine T_aload_nN (pc1 := 727) (pc := 726) k_L_law_726 rfl rfl ?_
    | refine T_iload_n (pc1 := 728) (pc := 727) k_L_law_727 rfl rfl ?_
    | refine T_iconst (v := (nI 2)) (pc1 := 729) (pc := 728) k_L_law_728 rfl (by decide) ?_
    | with_reducible refine T_iaddN (pc1 := 730) (pc := 729) k_L_law_729 (by decide) ?_
    | refine T_iadd (pc1 := 730) (pc := 729) k_L_law_729 rfl ?_
    | refine T_scN (pc1 := 731) (pc := 730) k_L_law_730 rfl (by assumption) (by omega) (by omega) ?_
    | refine T_aload_n (pc1 := 732) (pc := 731) k_L_law_731 rfl rfl ?_
    | refine T_aload_nN (pc1 := 732) (pc := 731) k_L_law_731 rfl rfl ?_
    | refine T_iload_n (pc1 := 733) (pc := 732) k_L_law_732 rfl rfl ?_
    | refine T_iconst (v := (nI 3)) (pc1 := 734) (pc := 733) k_L_law_733 rfl (by decide) ?_
    | refine T_scN (pc1 := 736) (pc := 735) k_L_law_735 rfl (by assumption) (by omega) (by omega) ?_)
  (refine T_cV (As := [_, _, _]) (d1 := 8) (pc1 := 739) (pc := 736) k_L_law_736 rfl (by decide) (Nat.le_of_ble_eq_true rfl) rfl o_S_look l_L_82 rfl (by assumption) rfl (c_S_look G0 ok okw c1 fun g1 J1 r1 G1 s1 f1 e1 => ?_) <;> try dsimp only [psh])
  have hg1 : g1.1 = G.1 := s1.1.trans hg
  have b1 : isAg g1 101 10 31 := ga G1 (by decide) rfl
  have C1 := CI_fr (r := 43) hC m14 s1 (by omega) (by omega) f1 (fun i hi => Or.inr hi) (LR_fr (r := 43) c1 n14 s1 (by omega) (by omega) f1 (fun i h1 h2 => tf_l1 h1 h2) (fun i hi => tf_121 (Or.inr hi)))
  have M1 := MI_fr hM f1 (fun i h1 h2 h3 => tf_mod h1 h2 (Or.inr h3))
  obtain ⟨x102, x103, xk, xSo, xSi, xPl, xTh, xHe, xWt, xw, xT, xz⟩ := id M1
  repeat' (first
    | ((first | refine T_aload_n (pc1 := 740) (pc := 739) k_L_law_739 rfl rfl ?_ | refine T_aload_nN (pc1 := 740) (pc := 739) k_L_law_739 rfl rfl ?_) <;> try ((first | refine T_aload_n (pc1 := 741) (pc := 740) k_L_law_740 rfl rfl ?_ | refine T_aload_nN (pc1 := 741) (pc := 740) k_L_law_740 rfl rfl ?_) <;> try (refine T_iload_n (pc1 := 742) (pc := 741) k_L_law_741 rfl rfl ?_ <;> try (refine T_iconst (v := (nI 1)) (pc1 := 743) (pc := 742) k_L_law_742 rfl (by decide) ?_ <;> try ((first | with_reducible refine T_iaddN (pc1 := 744) (pc := 743) k_L_law_743 (by decide) ?_ | refine T_iadd (pc1 := 744) (pc := 743) k_L_law_743 rfl ?_) <;> try (refine T_scN (pc1 := 745) (pc := 744) k_L_law_744 rfl (by assumption) (by omega) (by omega) ?_ <;> try ((first | refine T_aload_n (pc1 := 746) (pc := 745) k_L_law_745 rfl rfl ?_ | refine T_aload_nN (pc1 := 746) (pc := 745) k_L_law_745 rfl rfl ?_) <;> try (refine T_iload_n (pc1 := 747) (pc := 746) k_L_law_746 rfl rfl ?_ <;> try (refine T_iconst (v := (nI 2)) (pc1 := 748) (pc := 747) k_L_law_747 rfl (by decide) ?_ <;> try ((first | with_reducible refine T_iaddN (pc1 := 749) (pc := 748) k_L_law_748 (by decide) ?_ | refine T_iadd (pc1 := 749) (pc := 748) k_L_law_748 rfl ?_) <;> try (refine T_scN (pc1 := 750) (pc := 749) k_L_law_749 rfl (by assumption) (by omega) (by omega) ?_ <;> try ((first | refine T_aload_n (pc1 := 751) (pc := 750) k_L_law_750 rfl rfl ?_ | refine T_aload_nN (pc1 := 751) (pc := 750) k_L_law_750 rfl rfl ?_) <;> try (refine T_iload_n (pc1 := 752) (pc := 751) k_L_law_751 rfl rfl ?_ <;> try (refine T_iconst (v := (nI 3)) (pc1 := 753) (pc := 752) k_L_law_752 rfl (by decide) ?_))))))))))))))
    | ((first | with_reducible refine T_iaddN (pc1 := 754) (pc := 753) k_L_law_753 (by decide) ?_ | refine T_iadd (pc1 := 754) (pc := 753) k_L_law_753 rfl ?_) <;> try (refine T_scN (pc1 := 755) (pc := 754) k_L_law_754 rfl (by assumption) (by omega) (by omega) ?_))
    | refine T_aload_n (pc1 := 741) (pc := 740) k_L_law_740 rfl rfl ?_
    | refine T_aload_nN (pc1 := 741) (pc := 740) k_L_law_740 rfl rfl ?_
    | refine T_iload_n (pc1 := 742) (pc := 741) k_L_law_741 rfl rfl ?_
    | refine T_iconst (v := (nI 1)) (pc1 := 743) (pc := 742) k_L_law_742 rfl (by decide) ?_
    | with_reducible refine T_iaddN (pc1 := 744) (pc := 743) k_L_law_743 (by decide) ?_
    | refine T_iadd (pc1 := 744) (pc := 743) k_L_law_743 rfl ?_
    | refine T_scN (pc1 := 745) (pc := 744) k_L_law_744 rfl (by assumption) (by omega) (by omega) ?_
    | refine T_aload_n (pc1 := 746) (pc := 745) k_L_law_745 rfl rfl ?_
    | refine T_aload_nN (pc1 := 746) (pc := 745) k_L_law_745 rfl rfl ?_
    | refine T_iload_n (pc1 := 747) (pc := 746) k_L_law_746 rfl rfl ?_
    | refine T_iconst (v := (nI 2)) (pc1 := 748) (pc := 747) k_L_law_747 rfl (by decide) ?_
    | with_reducible refine T_iaddN (pc1 := 749) (pc := 748) k_L_law_748 (by decide) ?_
    | refine T_iadd (pc1 := 749) (pc := 748) k_L_law_748 rfl ?_
    | refine T_scN (pc1 := 750) (pc := 749) k_L_law_749 rfl (by assumption) (by omega) (by omega) ?_
    | refine T_aload_n (pc1 := 751) (pc := 750) k_L_law_750 rfl rfl ?_
    | refine T_aload_nN (pc1 := 751) (pc := 750) k_L_law_750 rfl rfl ?_
    | refine T_iload_n (pc1 := 752) (pc := 751) k_L_law_751 rfl rfl ?_
    | refine T_iconst (v := (nI 3)) (pc1 := 753) (pc := 752) k_L_law_752 rfl (by decide) ?_
    | refine T_scN (pc1 := 755) (pc := 754) k_L_law_754 rfl (by assumption) (by omega) (by omega) ?_)
  (refine T_cV (As := [_, _, _]) (d1 := 6) (pc1 := 758) (pc := 755) k_L_law_755 rfl (by decide) (Nat.le_of_ble_eq_true rfl) rfl o_M_look l_L_85 rfl (by assumption) rfl (c_M_look G1 x102 ok fun J2 r2 f2 e2 => ?_) <;> try dsimp only [psh])
  refine T_icmp_eq_t k_L_law_758 rfl (e1.trans e2.symm) ?_
  exact kk g1 J2 ⟨N, M, So, Si, Pl, Th, He, Wt, T, n, tn, n2, tn2, w, z, kept, HI_GS hH G1 s1, CI_mo C1 n14 m14 (eqx_fre f2 (by decide)), MI_q M1 f2 (by decide), hO⟩
theorem cs_ever (hI : Inv c G g I) (hi : i + 6 ≤ G.1.2.1) (hl : G.1.2.1 ≤ 384) (kk : ∀ g' J, Inv (c + 1) G g' J → Rl 153 M_L_law 1495 (LL i) [] g' J K) : Rl 153 M_L_law 829 (LL i) [] g I K := by
  obtain ⟨N, M, So, Si, Pl, Th, He, Wt, T, n, tn, n2, tn2, w, z, kept, hH, hC, hM, hO⟩ := hI
  have G0 := hH.1
  have hg := hH.2.1
  obtain ⟨ok, okw, okk, oks, okh, okt, hw60, h1556⟩ := id hO
  have n14 : n ≤ 14 := ok.2.1
  have m14 : kept = true → n2 ≤ 14 := fun k => (okk k).1.2.1
  have a0 : isAg g 0 9 11 := ga G0 (by decide) rfl
  have a1 : isAg g 101 10 31 := ga G0 (by decide) rfl
  obtain ⟨c1, c2, c3, c4, c5, c6, c7⟩ := id hC
  unfold LL
  repeat' (first
    | ((first | refine T_aload_n (pc1 := 830) (pc := 829) k_L_law_829 rfl rfl ?_ | refine T_aload_nN (pc1 := 830) (pc := 829) k_L_law_829 rfl rfl ?_) <;> try ((first | refine T_aload_n (pc1 := 831) (pc := 830) k_L_law_830 rfl rfl ?_ | refine T_aload_nN (pc1 := 831) (pc := 830) k_L_law_830 rfl rfl ?_) <;> try (refine T_iload_n (pc1 := 832) (pc := 831) k_L_law_831 rfl rfl ?_ <;> try (refine T_iconst (v := (nI 1)) (pc1 := 833) (pc := 832) k_L_law_832 rfl (by decide) ?_ <;> try ((first | with_reducible refine T_iaddN (pc1 := 834) (pc := 833) k_L_law_833 (by decide) ?_ | refine T_iadd (pc1 := 834) (pc := 833) k_L_law_833 rfl ?_) <;> try (refine T_scN (pc1 := 835) (pc := 834) k_L_law_834 rfl (by assumption) (by omega) (by omega) ?_ <;> try ((first | refine T_aload_n (pc1 := 836) (pc := 835) k_L_law_835 rfl rfl ?_ | refine T_aload_nN (pc1 := 836) (pc := 835) k_L_law_835 rfl rfl ?_) <;> try (refine T_iload_n (pc1 := 837) (pc := 836) k_L_law_836 rfl rfl ?_ <;> try (refine T_iconst (v := (nI 2)) (pc1 := 838) (pc := 837) k_L_law_837 rfl (by decide) ?_ <;> try ((first | with_reducible refine T_iaddN (pc1 := 839) (pc := 838) k_L_law_838 (by decide) ?_ | refine T_iadd (pc1 := 839) (pc := 838) k_L_law_838 rfl ?_) <;> try (refine T_scN (pc1 := 840) (pc := 839) k_L_law_839 rfl (by assumption) (by omega) (by omega) ?_ <;> try ((first | refine T_aload_n (pc1 := 841) (pc := 840) k_L_law_840 rfl rfl ?_ | refine T_aload_nN (pc1 := 841) (pc := 840) k_L_law_840 rfl rfl ?_) <;> try (refine T_iload_n (pc1 := 842) (pc := 841) k_L_law_841 rfl rfl ?_ <;> try (refine T_iconst (v := (nI 3)) (pc1 := 843) (pc := 842) k_L_law_842 rfl (by decide) ?_))))))))))))))
    | ((first | with_reducible refine T_iaddN (pc1 := 844) (pc := 843) k_L_law_843 (by decide) ?_ | refine T_iadd (pc1 := 844) (pc := 843) k_L_law_843 rfl ?_) <;> try (refine T_scN (pc1 := 845) (pc := 844) k_L_law_844 rfl (by assumption) (by omega) (by omega) ?_))
    | refine T_aload_n (pc1 := 831) (pc := 830) k_L_law_830 rfl rfl ?_
    | refine T_aload_nN (pc1 := 831) (pc := 830) k_L_law_830 rfl rfl ?_
    | refine T_iload_n (pc1 := 832) (pc := 831) k_L_law_831 rfl rfl ?_
    | refine T_iconst (v := (nI 1)) (pc1 := 833) (pc := 832) k_L_law_832 rfl (by decide) ?_
    | with_reducible refine T_iaddN (pc1 := 834) (pc := 833) k_L_law_833 (by decide) ?_
    | refine T_iadd (pc1 := 834) (pc := 833) k_L_law_833 rfl ?_
    | refine T_scN (pc1 := 835) (pc := 834) k_L_law_834 rfl (by assumption) (by omega) (by omega) ?_
    | refine T_aload_n (pc1 := 836) (pc := 835) k_L_law_835 rfl rfl ?_
    | refine T_aload_nN (pc1 := 836) (pc := 835) k_L_law_835 rfl rfl ?_
    | refine T_iload_n (pc1 := 837) (pc := 836) k_L_law_836 rfl rfl ?_
    | refine T_iconst (v := (nI 2)) (pc1 := 838) (pc := 837) k_L_law_837 rfl (by decide) ?_
    | with_reducible refine T_iaddN (pc1 := 839) (pc := 838) k_L_law_838 (by decide) ?_
    | refine T_iadd (pc1 := 839) (pc := 838) k_L_law_838 rfl ?_
    | refine T_scN (pc1 := 840) (pc := 839) k_L_law_839 rfl (by assumption) (by omega) (by omega) ?_
    | refine T_aload_n (pc1 := 841) (pc := 840) k_L_law_840 rfl rfl ?_
    | refine T_aload_nN (pc1 := 841) (pc := 840) k_L_law_840 rfl rfl ?_
    | refine T_iload_n (pc1 := 842) (pc := 841) k_L_law_841 rfl rfl ?_
    | refine T_iconst (v := (nI 3)) (pc1 := 843) (pc := 842) k_L_law_842 rfl (by decide) ?_
    | refine T_scN (pc1 := 845) (pc := 844) k_L_law_844 rfl (by assumption) (by omega) (by omega) ?_)
  (refine T_cV (As := [_, _, _]) (d1 := 7) (pc1 := 848) (pc := 845) k_L_law_845 rfl (by decide) (Nat.le_of_ble_eq_true rfl) rfl o_S_ever l_L_94 rfl (by assumption) rfl (c_S_ever G0 ok okw c1 fun g1 J1 r1 G1 s1 f1 e1 => ?_) <;> try dsimp only [psh])
  have hg1 : g1.1 = G.1 := s1.1.trans hg
  have b1 : isAg g1 101 10 31 := ga G1 (by decide) rfl
  have C1 := CI_fr (r := 43) hC m14 s1 (by omega) (by omega) f1 (fun i hi => Or.inr hi) (LR_fr (r := 43) c1 n14 s1 (by omega) (by omega) f1 (fun i h1 h2 => tf_l1 h1 h2) (fun i hi => tf_121 (Or.inr hi)))
  have M1 := MI_fr hM f1 (fun i h1 h2 h3 => tf_mod h1 h2 (Or.inr h3))
  obtain ⟨x102, x103, xk, xSo, xSi, xPl, xTh, xHe, xWt, xw, xT, xz⟩ := id M1
  repeat' (first
    | ((first | refine T_aload_n (pc1 := 849) (pc := 848) k_L_law_848 rfl rfl ?_ | refine T_aload_nN (pc1 := 849) (pc := 848) k_L_law_848 rfl rfl ?_) <;> try ((first | refine T_aload_n (pc1 := 850) (pc := 849) k_L_law_849 rfl rfl ?_ | refine T_aload_nN (pc1 := 850) (pc := 849) k_L_law_849 rfl rfl ?_) <;> try (refine T_iload_n (pc1 := 851) (pc := 850) k_L_law_850 rfl rfl ?_ <;> try (refine T_iconst (v := (nI 1)) (pc1 := 852) (pc := 851) k_L_law_851 rfl (by decide) ?_ <;> try ((first | with_reducible refine T_iaddN (pc1 := 853) (pc := 852) k_L_law_852 (by decide) ?_ | refine T_iadd (pc1 := 853) (pc := 852) k_L_law_852 rfl ?_) <;> try (refine T_scN (pc1 := 854) (pc := 853) k_L_law_853 rfl (by assumption) (by omega) (by omega) ?_ <;> try ((first | refine T_aload_n (pc1 := 855) (pc := 854) k_L_law_854 rfl rfl ?_ | refine T_aload_nN (pc1 := 855) (pc := 854) k_L_law_854 rfl rfl ?_) <;> try (refine T_iload_n (pc1 := 856) (pc := 855) k_L_law_855 rfl rfl ?_ <;> try (refine T_iconst (v := (nI 2)) (pc1 := 857) (pc := 856) k_L_law_856 rfl (by decide) ?_ <;> try ((first | with_reducible refine T_iaddN (pc1 := 858) (pc := 857) k_L_law_857 (by decide) ?_ | refine T_iadd (pc1 := 858) (pc := 857) k_L_law_857 rfl ?_) <;> try (refine T_scN (pc1 := 859) (pc := 858) k_L_law_858 rfl (by assumption) (by omega) (by omega) ?_ <;> try ((first | refine T_aload_n (pc1 := 860) (pc := 859) k_L_law_859 rfl rfl ?_ | refine T_aload_nN (pc1 := 860) (pc := 859) k_L_law_859 rfl rfl ?_) <;> try (refine T_iload_n (pc1 := 861) (pc := 860) k_L_law_860 rfl rfl ?_ <;> try (refine T_iconst (v := (nI 3)) (pc1 := 862) (pc := 861) k_L_law_861 rfl (by decide) ?_))))))))))))))
    | ((first | with_reducible refine T_iaddN (pc1 := 863) (pc := 862) k_L_law_862 (by decide) ?_ | refine T_iadd (pc1 := 863) (pc := 862) k_L_law_862 rfl ?_) <;> try (refine T_scN (pc1 := 864) (pc := 863) k_L_law_863 rfl (by assumption) (by omega) (by omega) ?_))
    | refine T_aload_n (pc1 := 850) (pc := 849) k_L_law_849 rfl rfl ?_
    | refine T_aload_nN (pc1 := 850) (pc := 849) k_L_law_849 rfl rfl ?_
    | refine T_iload_n (pc1 := 851) (pc := 850) k_L_law_850 rfl rfl ?_
    | refine T_iconst (v := (nI 1)) (pc1 := 852) (pc := 851) k_L_law_851 rfl (by decide) ?_
    | with_reducible refine T_iaddN (pc1 := 853) (pc := 852) k_L_law_852 (by decide) ?_
    | refine T_iadd (pc1 := 853) (pc := 852) k_L_law_852 rfl ?_
    | refine T_scN (pc1 := 854) (pc := 853) k_L_law_853 rfl (by assumption) (by omega) (by omega) ?_
    | refine T_aload_n (pc1 := 855) (pc := 854) k_L_law_854 rfl rfl ?_
    | refine T_aload_nN (pc1 := 855) (pc := 854) k_L_law_854 rfl rfl ?_
    | refine T_iload_n (pc1 := 856) (pc := 855) k_L_law_855 rfl rfl ?_
    | refine T_iconst (v := (nI 2)) (pc1 := 857) (pc := 856) k_L_law_856 rfl (by decide) ?_
    | with_reducible refine T_iaddN (pc1 := 858) (pc := 857) k_L_law_857 (by decide) ?_
    | refine T_iadd (pc1 := 858) (pc := 857) k_L_law_857 rfl ?_
    | refine T_scN (pc1 := 859) (pc := 858) k_L_law_858 rfl (by assumption) (by omega) (by omega) ?_
    | refine T_aload_n (pc1 := 860) (pc := 859) k_L_law_859 rfl rfl ?_
    | refine T_aload_nN (pc1 := 860) (pc := 859) k_L_law_859 rfl rfl ?_
    | refine T_iload_n (pc1 := 861) (pc := 860) k_L_law_860 rfl rfl ?_
    | refine T_iconst (v := (nI 3)) (pc1 := 862) (pc := 861) k_L_law_861 rfl (by decide) ?_
    | refine T_scN (pc1 := 864) (pc := 863) k_L_law_863 rfl (by assumption) (by omega) (by omega) ?_)
  (refine T_cV (As := [_, _, _]) (d1 := 6) (pc1 := 867) (pc := 864) k_L_law_864 rfl (by decide) (Nat.le_of_ble_eq_true rfl) rfl o_M_ever l_L_97 rfl (by assumption) rfl (c_M_ever G1 x102 ok fun J2 r2 f2 e2 => ?_) <;> try dsimp only [psh])
  refine T_icmp_eq_t k_L_law_867 rfl (e1.trans e2.symm) ?_
  exact kk g1 J2 ⟨N, M, So, Si, Pl, Th, He, Wt, T, n, tn, n2, tn2, w, z, kept, HI_GS hH G1 s1, CI_mo C1 n14 m14 (eqx_fre f2 (by decide)), MI_q M1 f2 (by decide), hO⟩
end L1
