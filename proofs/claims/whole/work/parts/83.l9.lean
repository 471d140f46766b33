/-! The law: back. -/
section L9
variable {g G : Geo} {I : IM} {K : Option Value → Geo → IM → Prop} {c i : Nat}
theorem cs_back (hI : Inv c G g I) (hi : i + 6 ≤ G.1.2.1) (hl : G.1.2.1 ≤ 384) (kk : ∀ g' J, Inv (c + 1) G g' J → Rl 153 M_L_law 1495 (LL i) [] g' J K) : Rl 153 M_L_law 1459 (LL i) [] g I K := by
  obtain ⟨N, M, So, Si, Pl, Th, He, Wt, T, n, tn, n2, tn2, w, z, kept, hH, hC, hM, hO⟩ := hI
  have G0 := hH.1
  have hg := hH.2.1
  obtain ⟨ok, okw, okk, oks, okh, okt, hw60, h1556⟩ := id hO
  have n14 : n ≤ 14 := ok.2.1
  have m14 : kept = true → n2 ≤ 14 := fun k => (okk k).1.2.1
  have a0 : isAg g 0 9 11 := ga G0 (by decide) rfl
  have a1 : isAg g 101 10 31 := ga G0 (by decide) rfl
  obtain ⟨c1, c2, c3, c4, c5, c6, c7⟩ := id hC
  unfold LL
  repeat' (first
    | ((first | refine T_aload_n (pc1 := 1460) (pc := 1459) k_L_law_1459 rfl rfl ?_ | refine T_aload_nN (pc1 := 1460) (pc := 1459) k_L_law_1459 rfl rfl ?_)))
  obtain ⟨x102, x103, xk, xSo, xSi, xPl, xTh, xHe, xWt, xw, xT, xz⟩ := id hM
  rcases kept with _ | _
  · skip
    (refine T_cV (As := []) (d1 := 3) (pc1 := 1463) (pc := 1460) k_L_law_1460 rfl (by decide) (Nat.le_of_ble_eq_true rfl) rfl o_S_back l_L_175 rfl (by assumption) rfl (c_S_back0 G0 c2 ?_) <;> try dsimp only [psh])
    repeat' (first
      | ((first | refine T_aload_n (pc1 := 1464) (pc := 1463) k_L_law_1463 rfl rfl ?_ | refine T_aload_nN (pc1 := 1464) (pc := 1463) k_L_law_1463 rfl rfl ?_)))
    (refine T_cV (As := []) (d1 := 2) (pc1 := 1467) (pc := 1464) k_L_law_1464 rfl (by decide) (Nat.le_of_ble_eq_true rfl) rfl o_M_back l_L_178 rfl (by assumption) rfl (c_M_back0 G0 xk ?_) <;> try dsimp only [psh])
    refine T_icmp_eq_t k_L_law_1467 rfl rfl ?_
    exact kk g I ⟨N, M, So, Si, Pl, Th, He, Wt, T, n, tn, n2, tn2, w, z, false, HI_s hH, hC, hM, hO⟩
  · skip
    (refine T_cV (As := []) (d1 := 3) (pc1 := 1463) (pc := 1460) k_L_law_1460 rfl (by decide) (Nat.le_of_ble_eq_true rfl) rfl o_S_back l_L_175 rfl (by assumption) rfl (c_S_back1 G0 c2 (okk rfl).1 (okk rfl).2 (c3 rfl) fun g1 J1 G1 s1 f1 L1 => ?_) <;> try dsimp only [psh])
    have hg1 : g1.1 = G.1 := s1.1.trans hg
    have b1 : isAg g1 101 10 31 := ga G1 (by decide) rfl
    have C1 := CI_fr (r := 3) hC m14 s1 (by omega) (by omega) f1 (fun i hi => Or.inl hi) L1
    have M1 := MI_fr hM f1 (fun i h1 h2 h3 => tf_mod h1 h2 (Or.inl h3))
    repeat' (first
      | ((first | refine T_aload_n (pc1 := 1464) (pc := 1463) k_L_law_1463 rfl rfl ?_ | refine T_aload_nN (pc1 := 1464) (pc := 1463) k_L_law_1463 rfl rfl ?_)))
    (refine T_cV (As := []) (d1 := 2) (pc1 := 1467) (pc := 1464) k_L_law_1464 rfl (by decide) (Nat.le_of_ble_eq_true rfl) rfl o_M_back l_L_178 rfl (by assumption) rfl (c_M_back1 G1 M1.2.2.1 M1.2.1 (okk rfl).1.1 (fun k hk => by rw [M1.1]; exact (h1556 k hk).symm) fun J2 f2 q1 => ?_) <;> try dsimp only [psh])
    refine T_icmp_eq_t k_L_law_1467 rfl rfl ?_
    exact kk g1 J2 ⟨M, M, So, Si, Pl, Th, He, Wt, T, n2, tn2, n2, tn2, w, z, true, HI_GS hH G1 s1, CI_mo C1 (m14 rfl) m14 (eqx_fre f2 (by decide)), MI_N M1 f2 (by decide) q1, ⟨(okk rfl).1, (okk rfl).2, okk, oks, okh, okt, hw60, fun _ _ => rfl⟩⟩
end L9
