/-! The law: a case. -/
section PL1
theorem T_scN {d : Nat} {μ : Mth} {pc pc1 j : Nat} {L : Lcl} {S : List Value} {g G : Geo} {I : IM} {P : Option Value → Geo → IM → Prop} (hf : Fe μ pc .iaload 1) (hq : pc + 1 = pc1) (hg : g.1 = G.1) (hj : j < G.1.2.1) (hl : G.1.2.1 < 2147483648) (kR : Rl d μ pc1 L (.int (G.1.1 j) :: S) g I P) : Rl d μ pc L (.int (nI j) :: .ref 1000300 :: S) g I P := by
  rw [← hg] at *
  exact T_scld hf hq (vp_in_nI hj hl) (by rw [nI_clamp (Nat.lt_trans hj hl)]; exact kR)
def LL (i : Nat) : Lcl := [some (.ref 1000300), some (.ref 0), some (.ref 101), some (.int (nI i))]
end PL1
section L1
variable {g G : Geo} {I : IM} {K : Option Value → Geo → IM → Prop} {c i : Nat}
theorem cs_told (hI : Inv c G g I) (hi : i + 6 ≤ G.1.2.1) (hl : G.1.2.1 ≤ 384) (kk : ∀ g' J, Inv (c + 1) G g' J → Rl 153 M_L_law 1495 (LL i) [] g' J K) : Rl 153 M_L_law 265 (LL i) [] g I K := by
  obtain ⟨N, M, So, Si, Pl, Th, He, Wt, T, n, tn, n2, tn2, w, z, kept, hH, hC, hM, hO⟩ := hI
  have G0 := hH.1
  have hg := hH.2.1
  have ok := hO.1
  have n14 : n ≤ 14 := ok.2.1
  have m14 : kept = true → n2 ≤ 14 := fun k => (hO.2.2.1 k).1.2.1
  have a0 : isAg g 0 9 11 := ga G0 (by decide) rfl
  have a1 : isAg g 101 10 31 := ga G0 (by decide) rfl
  unfold LL
  repeat' (first
    | ((first | refine T_aload_n (pc1 := 266) (pc := 265) k_L_law_265 rfl rfl ?_ | refine T_aload_nN (pc1 := 266) (pc := 265) k_L_law_265 rfl rfl ?_) <;> try ((first | refine T_aload_n (pc1 := 267) (pc := 266) k_L_law_266 rfl rfl ?_ | refine T_aload_nN (pc1 := 267) (pc := 266) k_L_law_266 rfl rfl ?_) <;> try (refine T_iload_n (pc1 := 268) (pc := 267) k_L_law_267 rfl rfl ?_ <;> try (refine T_iconst (v := (nI 1)) (pc1 := 269) (pc := 268) k_L_law_268 rfl (by decide) ?_ <;> try ((first | with_reducible refine T_iaddN (pc1 := 270) (pc := 269) k_L_law_269 (by decide) ?_ | refine T_iadd (pc1 := 270) (pc := 269) k_L_law_269 rfl ?_) <;> try (refine T_scN (pc1 := 271) (pc := 270) k_L_law_270 rfl (by assumption) (by omega) (by omega) ?_ <;> try ((first | refine T_aload_n (pc1 := 272) (pc := 271) k_L_law_271 rfl rfl ?_ | refine T_aload_nN (pc1 := 272) (pc := 271) k_L_law_271 rfl rfl ?_) <;> try (refine T_iload_n (pc1 := 273) (pc := 272) k_L_law_272 rfl rfl ?_ <;> try (refine T_iconst (v := (nI 2)) (pc1 := 274) (pc := 273) k_L_law_273 rfl (by decide) ?_ <;> try ((first | with_reducible refine T_iaddN (pc1 := 275) (pc := 274) k_L_law_274 (by decide) ?_ | refine T_iadd (pc1 := 275) (pc := 274) k_L_law_274 rfl ?_) <;> try (refine T_scN (pc1 := 276) (pc := 275) k_L_law_275 rfl (by assumption) (by omega) (by omega) ?_)))))))))))
    | refine T_aload_n (pc1 := 267) (pc := 266) k_L_law_266 rfl rfl ?_
    | refine T_aload_nN (pc1 := 267) (pc := 266) k_L_law_266 rfl rfl ?_
    | refine T_iload_n (pc1 := 268) (pc := 267) k_L_law_267 rfl rfl ?_
    | refine T_iconst (v := (nI 1)) (pc1 := 269) (pc := 268) k_L_law_268 rfl (by decide) ?_
    | with_reducible refine T_iaddN (pc1 := 270) (pc := 269) k_L_law_269 (by decide) ?_
    | refine T_iadd (pc1 := 270) (pc := 269) k_L_law_269 rfl ?_
    | refine T_scN (pc1 := 271) (pc := 270) k_L_law_270 rfl (by assumption) (by omega) (by omega) ?_
    | refine T_aload_n (pc1 := 272) (pc := 271) k_L_law_271 rfl rfl ?_
    | refine T_aload_nN (pc1 := 272) (pc := 271) k_L_law_271 rfl rfl ?_
    | refine T_iload_n (pc1 := 273) (pc := 272) k_L_law_272 rfl rfl ?_
    | refine T_iconst (v := (nI 2)) (pc1 := 274) (pc := 273) k_L_law_273 rfl (by decide) ?_
    | with_reducible refine T_iaddN (pc1 := 275) (pc := 274) k_L_law_274 (by decide) ?_
    | refine T_iadd (pc1 := 275) (pc := 274) k_L_law_274 rfl ?_
    | refine T_scN (pc1 := 276) (pc := 275) k_L_law_275 rfl (by assumption) (by omega) (by omega) ?_)
  (refine T_cV (As := [_, _]) (d1 := 5) (pc1 := 279) (pc := 276) k_L_law_276 rfl (by decide) (Nat.le_of_ble_eq_true rfl) rfl o_S_told l_L_18 rfl (by assumption) rfl (c_S_told G0 ok hC.1 fun J1 r1 f1 e1 => ?_) <;> try dsimp only [psh])
  have C1 := CI_fr (r := 43) hC m14 GS_rf (by omega) (by omega) f1 (fun i hi => Or.inr (Or.inl (Or.inr (Or.inr (Or.inr hi))))) (LR_fr (r := 43) hC.1 n14 GS_rf (by omega) (by omega) f1 (fun i h1 h2 => by unfold lnd at h1; unfold stk at h2; omega) (fun i hi => Or.inr hi))
  have M1 := MI_fr hM f1 (fun i h1 h2 h3 => by unfold stk at h3; omega)
  repeat' (first
    | ((first | refine T_aload_n (pc1 := 280) (pc := 279) k_L_law_279 rfl rfl ?_ | refine T_aload_nN (pc1 := 280) (pc := 279) k_L_law_279 rfl rfl ?_) <;> try ((first | refine T_aload_n (pc1 := 281) (pc := 280) k_L_law_280 rfl rfl ?_ | refine T_aload_nN (pc1 := 281) (pc := 280) k_L_law_280 rfl rfl ?_) <;> try (refine T_iload_n (pc1 := 282) (pc := 281) k_L_law_281 rfl rfl ?_ <;> try (refine T_iconst (v := (nI 1)) (pc1 := 283) (pc := 282) k_L_law_282 rfl (by decide) ?_ <;> try ((first | with_reducible refine T_iaddN (pc1 := 284) (pc := 283) k_L_law_283 (by decide) ?_ | refine T_iadd (pc1 := 284) (pc := 283) k_L_law_283 rfl ?_) <;> try (refine T_scN (pc1 := 285) (pc := 284) k_L_law_284 rfl (by assumption) (by omega) (by omega) ?_ <;> try ((first | refine T_aload_n (pc1 := 286) (pc := 285) k_L_law_285 rfl rfl ?_ | refine T_aload_nN (pc1 := 286) (pc := 285) k_L_law_285 rfl rfl ?_) <;> try (refine T_iload_n (pc1 := 287) (pc := 286) k_L_law_286 rfl rfl ?_ <;> try (refine T_iconst (v := (nI 2)) (pc1 := 288) (pc := 287) k_L_law_287 rfl (by decide) ?_ <;> try ((first | with_reducible refine T_iaddN (pc1 := 289) (pc := 288) k_L_law_288 (by decide) ?_ | refine T_iadd (pc1 := 289) (pc := 288) k_L_law_288 rfl ?_) <;> try (refine T_scN (pc1 := 290) (pc := 289) k_L_law_289 rfl (by assumption) (by omega) (by omega) ?_)))))))))))
    | refine T_aload_n (pc1 := 281) (pc := 280) k_L_law_280 rfl rfl ?_
    | refine T_aload_nN (pc1 := 281) (pc := 280) k_L_law_280 rfl rfl ?_
    | refine T_iload_n (pc1 := 282) (pc := 281) k_L_law_281 rfl rfl ?_
    | refine T_iconst (v := (nI 1)) (pc1 := 283) (pc := 282) k_L_law_282 rfl (by decide) ?_
    | with_reducible refine T_iaddN (pc1 := 284) (pc := 283) k_L_law_283 (by decide) ?_
    | refine T_iadd (pc1 := 284) (pc := 283) k_L_law_283 rfl ?_
    | refine T_scN (pc1 := 285) (pc := 284) k_L_law_284 rfl (by assumption) (by omega) (by omega) ?_
    | refine T_aload_n (pc1 := 286) (pc := 285) k_L_law_285 rfl rfl ?_
    | refine T_aload_nN (pc1 := 286) (pc := 285) k_L_law_285 rfl rfl ?_
    | refine T_iload_n (pc1 := 287) (pc := 286) k_L_law_286 rfl rfl ?_
    | refine T_iconst (v := (nI 2)) (pc1 := 288) (pc := 287) k_L_law_287 rfl (by decide) ?_
    | with_reducible refine T_iaddN (pc1 := 289) (pc := 288) k_L_law_288 (by decide) ?_
    | refine T_iadd (pc1 := 289) (pc := 288) k_L_law_288 rfl ?_
    | refine T_scN (pc1 := 290) (pc := 289) k_L_law_289 rfl (by assumption) (by omega) (by omega) ?_)
  (refine T_cV (As := [_, _]) (d1 := 5) (pc1 := 293) (pc := 290) k_L_law_290 rfl (by decide) (Nat.le_of_ble_eq_true rfl) rfl o_M_told l_L_22 rfl (by assumption) rfl (c_M_told G0 M1.1 ok fun J2 r2 f2 e2 => ?_) <;> try dsimp only [psh])
  have e3 : r1 = r2 := e1.trans e2.symm
  subst e3
  refine T_icmp_eq_t k_L_law_293 rfl rfl ?_
  refine kk g J2 ⟨N, M, So, Si, Pl, Th, He, Wt, T, n, tn, n2, tn2, w, z, kept, HI_s hH, CI_mo C1 n14 m14 (eqx_fre f2 (by decide)), MI_fr M1 (P := fun i => i ∈ [112, 113]) (fun i hi => f2 i hi) ?_, hO⟩
  intro i h1 h2 h3
  sorry
end L1
