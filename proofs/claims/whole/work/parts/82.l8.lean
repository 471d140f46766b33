/-! The law: keep. -/
section L8
variable {g G : Geo} {I : IM} {K : Option Value → Geo → IM → Prop} {c i : Nat}
theorem cs_keep (hI : Inv c G g I) (hi : i + 6 ≤ G.1.2.1) (hl : G.1.2.1 ≤ 384) (kk : ∀ g' J, Inv (c + 1) G g' J → Rl 153 M_L_law 1495 (LL i) [] g' J K) : Rl 153 M_L_law 1446 (LL i) [] g I K := by
  obtain ⟨N, M, So, Si, Pl, Th, He, Wt, T, n, tn, n2, tn2, w, z, kept, hH, hC, hM, hO⟩ := hI
  have G0 := hH.1
  have hg := hH.2.1
  obtain ⟨ok, okw, okk, oks, okh, okt, hw60, h1556⟩ := id hO
  have n14 : n ≤ 14 := ok.2.1
  have m14 : kept = true → n2 ≤ 14 := fun k => (okk k).1.2.1
  have a0 : isAg g 0 9 11 := ga G0 (by decide) rfl
  have a1 : isAg g 101 10 31 := ga G0 (by decide) rfl
  obtain ⟨c1, c2, c3, c4, c5, c6, c7⟩ := id hC
  unfold LL
  repeat' (first
    | ((first | refine T_aload_n (pc1 := 1447) (pc := 1446) k_L_law_1446 rfl rfl ?_ | refine T_aload_nN (pc1 := 1447) (pc := 1446) k_L_law_1446 rfl rfl ?_)))
  (refine T_cV (As := []) (d1 := 3) (pc1 := 1450) (pc := 1447) k_L_law_1447 rfl (by decide) (Nat.le_of_ble_eq_true rfl) rfl o_S_keep l_L_171 rfl (by assumption) rfl (c_S_keep G0 ok okw c1 fun g1 J1 G1 s1 f1 y1 L1 => ?_) <;> try dsimp only [psh])
  have hg1 : g1.1 = G.1 := s1.1.trans hg
  have b1 : isAg g1 101 10 31 := ga G1 (by decide) rfl
  have C1 : CI g1 J1 N N So Si Pl Th He Wt T n tn n tn w z true := by
    refine ⟨LR_fr (r := 23) c1 n14 s1 (by omega) (by omega) f1 (fun i hi => by unfold lnd at *; omega) (fun i hi => Or.inl (by unfold lnd at hi; omega)), ?_, fun _ => L1, CS_fr c4 f1 (fun i hi => by unfold shf at hi; unfold lnd; omega), CH_fr c5 f1 (fun i hi => by unfold slf at hi; unfold lnd; omega), ?_, ?_⟩
    · rw [y1, va_up_self]; rfl
    · unfold CW at *
      rw [y1, f1 72 (by unfold lnd; omega), va_up_ne _ _ (by decide)]
      exact c6
    · unfold CT at *
      rw [f1 67 (by unfold lnd; omega), f1 68 (by unfold lnd; omega)]
      exact c7
  have M1 := MI_fr hM f1 (fun i h1 h2 h3 => by unfold lnd at h3; omega)
  obtain ⟨x102, x103, xk, xSo, xSi, xPl, xTh, xHe, xWt, xw, xT, xz⟩ := id M1
  repeat' (first
    | ((first | refine T_aload_n (pc1 := 1451) (pc := 1450) k_L_law_1450 rfl rfl ?_ | refine T_aload_nN (pc1 := 1451) (pc := 1450) k_L_law_1450 rfl rfl ?_)))
  (refine T_cV (As := []) (d1 := 2) (pc1 := 1454) (pc := 1451) k_L_law_1451 rfl (by decide) (Nat.le_of_ble_eq_true rfl) rfl o_M_keep l_L_174 rfl (by assumption) rfl (c_M_keep G1 x102 ok.1 (fun k hk => by rw [x103]; exact h1556 k hk) fun J2 f2 q1 q2 => ?_) <;> try dsimp only [psh])
  refine T_icmp_eq_t k_L_law_1454 rfl rfl ?_
  refine kk g1 J2 ⟨N, N, So, Si, Pl, Th, He, Wt, T, n, tn, n, tn, w, z, true, HI_GS hH G1 s1, CI_mo C1 n14 (fun _ => n14) (eqx_fre f2 (by decide)), ?_, ⟨ok, okw, fun _ => ⟨ok, okw⟩, oks, okh, okt, hw60, fun _ _ => rfl⟩⟩
  unfold MI
  rw [q2, q1, f2 102 (by decide), f2 108 (by decide), f2 114 (by decide), f2 115 (by decide), f2 116 (by decide), f2 118 (by decide), f2 119 (by decide), f2 120 (by decide), va_up_self, va_up_ne _ _ (by decide), va_up_ne _ _ (by decide)]
  exact ⟨x102, rfl, rfl, xSo, xSi, xPl, xTh, xHe, xWt, xw, xT, xz⟩
end L8
