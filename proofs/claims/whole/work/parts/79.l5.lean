/-! The law: trim, tell. -/
section PL5
/-- the tape moves: the rest of the class stays -/
theorem CI_tp {g : Geo} {I J : IM} {N M So Si Pl Th He Wt T T' : Row} {n tn n2 tn2 w z z' : Nat} {kept : Bool} (h : CI g I N M So Si Pl Th He Wt T n tn n2 tn2 w z kept) (hn : n ≤ 14) (h14 : kept = true → n2 ≤ 14) (hf : fre tpf I J) (hT : CT J T' z') : CI g J N M So Si Pl Th He Wt T' n tn n2 tn2 w z' kept := by
  obtain ⟨c1, c2, c3, c4, c5, c6, c7⟩ := h
  refine ⟨LR_fr (r := 43) c1 hn GS_rf (by omega) (by omega) hf (fun i hi => by unfold lnd at hi; unfold tpf; omega) (fun i hi => Or.inl (by unfold tpf at hi; omega)), ?_, fun k => LR_fr (r := 43) (c3 k) (h14 k) GS_rf (by omega) (by omega) hf (fun i hi => by unfold lnd at hi; unfold tpf; omega) (fun i hi => Or.inl (by unfold tpf at hi; omega)), CS_fr c4 hf (fun i hi => by unfold shf at hi; unfold tpf; omega), CH_fr c5 hf (fun i hi => by unfold slf at hi; unfold tpf; omega), ?_, hT⟩
  · rw [hf 0 (by unfold tpf; omega)]; exact c2
  · unfold CW at *
    rw [hf 0 (by unfold tpf; omega), hf 72 (by unfold tpf; omega)]
    exact c6
theorem trimZ_le {z : Nat} {v : Int32} : trimZ z v ≤ z := by
  unfold trimZ
  have e : v.toNatClampNeg = v.toInt.toNat := rfl
  rw [e]
  split <;> omega
end PL5
section L5
variable {g G : Geo} {I : IM} {K : Option Value → Geo → IM → Prop} {c i : Nat}
theorem cs_trim (hI : Inv c G g I) (hi : i + 6 ≤ G.1.2.1) (hl : G.1.2.1 ≤ 384) (kk : ∀ g' J, Inv (c + 1) G g' J → Rl 153 M_L_law 1495 (LL i) [] g' J K) : Rl 153 M_L_law 951 (LL i) [] g I K := by
  obtain ⟨N, M, So, Si, Pl, Th, He, Wt, T, n, tn, n2, tn2, w, z, kept, hH, hC, hM, hO⟩ := hI
  have G0 := hH.1
  have hg := hH.2.1
  obtain ⟨ok, okw, okk, oks, okh, okt, hw60, h1556⟩ := id hO
  have n14 : n ≤ 14 := ok.2.1
  have m14 : kept = true → n2 ≤ 14 := fun k => (okk k).1.2.1
  have a0 : isAg g 0 9 11 := ga G0 (by decide) rfl
  have a1 : isAg g 101 10 31 := ga G0 (by decide) rfl
  obtain ⟨c1, c2, c3, c4, c5, c6, c7⟩ := id hC
  unfold LL
  repeat' (first
    | ((first | refine T_aload_n (pc1 := 952) (pc := 951) k_L_law_951 rfl rfl ?_ | refine T_aload_nN (pc1 := 952) (pc := 951) k_L_law_951 rfl rfl ?_) <;> try ((first | refine T_aload_n (pc1 := 953) (pc := 952) k_L_law_952 rfl rfl ?_ | refine T_aload_nN (pc1 := 953) (pc := 952) k_L_law_952 rfl rfl ?_) <;> try (refine T_iload_n (pc1 := 954) (pc := 953) k_L_law_953 rfl rfl ?_ <;> try (refine T_iconst (v := (nI 1)) (pc1 := 955) (pc := 954) k_L_law_954 rfl (by decide) ?_ <;> try ((first | with_reducible refine T_iaddN (pc1 := 956) (pc := 955) k_L_law_955 (by decide) ?_ | refine T_iadd (pc1 := 956) (pc := 955) k_L_law_955 rfl ?_) <;> try (refine T_scN (pc1 := 957) (pc := 956) k_L_law_956 rfl (by assumption) (by omega) (by omega) ?_))))))
    | refine T_aload_n (pc1 := 953) (pc := 952) k_L_law_952 rfl rfl ?_
    | refine T_aload_nN (pc1 := 953) (pc := 952) k_L_law_952 rfl rfl ?_
    | refine T_iload_n (pc1 := 954) (pc := 953) k_L_law_953 rfl rfl ?_
    | refine T_iconst (v := (nI 1)) (pc1 := 955) (pc := 954) k_L_law_954 rfl (by decide) ?_
    | with_reducible refine T_iaddN (pc1 := 956) (pc := 955) k_L_law_955 (by decide) ?_
    | refine T_iadd (pc1 := 956) (pc := 955) k_L_law_955 rfl ?_
    | refine T_scN (pc1 := 957) (pc := 956) k_L_law_956 rfl (by assumption) (by omega) (by omega) ?_)
  (refine T_cV (As := [_]) (d1 := 2) (pc1 := 960) (pc := 957) k_L_law_957 rfl (by decide) (Nat.le_of_ble_eq_true rfl) rfl o_S_trim l_L_110 rfl (by assumption) rfl (c_S_trim G0 c7 okt.1 fun J1 r1 f1 S1 e1 => ?_) <;> try dsimp only [psh])
  have C1 := CI_tp hC n14 m14 f1 S1
  have M1 := MI_fr hM f1 (fun i h1 h2 h3 => by unfold tpf at h3; omega)
  obtain ⟨x102, x103, xk, xSo, xSi, xPl, xTh, xHe, xWt, xw, xT, xz⟩ := id M1
  repeat' (first
    | ((first | refine T_aload_n (pc1 := 961) (pc := 960) k_L_law_960 rfl rfl ?_ | refine T_aload_nN (pc1 := 961) (pc := 960) k_L_law_960 rfl rfl ?_) <;> try ((first | refine T_aload_n (pc1 := 962) (pc := 961) k_L_law_961 rfl rfl ?_ | refine T_aload_nN (pc1 := 962) (pc := 961) k_L_law_961 rfl rfl ?_) <;> try (refine T_iload_n (pc1 := 963) (pc := 962) k_L_law_962 rfl rfl ?_ <;> try (refine T_iconst (v := (nI 1)) (pc1 := 964) (pc := 963) k_L_law_963 rfl (by decide) ?_ <;> try ((first | with_reducible refine T_iaddN (pc1 := 965) (pc := 964) k_L_law_964 (by decide) ?_ | refine T_iadd (pc1 := 965) (pc := 964) k_L_law_964 rfl ?_) <;> try (refine T_scN (pc1 := 966) (pc := 965) k_L_law_965 rfl (by assumption) (by omega) (by omega) ?_))))))
    | refine T_aload_n (pc1 := 962) (pc := 961) k_L_law_961 rfl rfl ?_
    | refine T_aload_nN (pc1 := 962) (pc := 961) k_L_law_961 rfl rfl ?_
    | refine T_iload_n (pc1 := 963) (pc := 962) k_L_law_962 rfl rfl ?_
    | refine T_iconst (v := (nI 1)) (pc1 := 964) (pc := 963) k_L_law_963 rfl (by decide) ?_
    | with_reducible refine T_iaddN (pc1 := 965) (pc := 964) k_L_law_964 (by decide) ?_
    | refine T_iadd (pc1 := 965) (pc := 964) k_L_law_964 rfl ?_
    | refine T_scN (pc1 := 966) (pc := 965) k_L_law_965 rfl (by assumption) (by omega) (by omega) ?_)
  (refine T_cV (As := [_]) (d1 := 2) (pc1 := 969) (pc := 966) k_L_law_966 rfl (by decide) (Nat.le_of_ble_eq_true rfl) rfl o_M_trim l_L_113 rfl (by assumption) rfl (c_M_trim G0 xz okt.1 fun J2 r2 f2 q2 e2 => ?_) <;> try dsimp only [psh])
  refine T_icmp_eq_t k_L_law_969 rfl (e1.trans e2.symm) ?_
  refine kk g J2 ⟨N, M, So, Si, Pl, Th, He, Wt, T, n, tn, n2, tn2, w, _, kept, HI_s hH, CI_mo C1 n14 m14 (eqx_fre f2 (by decide)), ?_, ⟨ok, okw, okk, oks, okh, ⟨Nat.le_trans trimZ_le okt.1, fun k hk => okt.2 k (Nat.lt_of_lt_of_le hk trimZ_le)⟩, hw60, h1556⟩⟩
  unfold MI
  rw [q2, f2 102 (by decide), f2 103 (by decide), f2 108 (by decide), f2 114 (by decide), f2 115 (by decide), f2 116 (by decide), f2 118 (by decide), f2 119 (by decide), f2 120 (by decide), va_up_ne _ _ (by decide), va_up_ne _ _ (by decide), va_up_self]
  exact ⟨x102, x103, xk, xSo, xSi, xPl, xTh, xHe, xWt, xw, xT, rfl⟩
end L5
