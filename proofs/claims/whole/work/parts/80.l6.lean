/-! The law: feed. -/
section PL6
theorem feed_okp {T : Row} {z : Nat} {a b c : Int32} (h : okTp T z) : okTp (feedT T z a b c) (feedZ z) := by
  unfold feedT feedZ
  by_cases q : z + 12 ≤ 96
  · rw [if_pos q, if_pos q]
    exact ⟨q, lay4_ok (z := z + 8) (lay4_ok (z := z + 4) (lay4_ok h.2))⟩
  · rw [if_neg q, if_neg q]
    exact h
end PL6
section L6
variable {g G : Geo} {I : IM} {K : Option Value → Geo → IM → Prop} {c i : Nat}
theorem cs_feed (hI : Inv c G g I) (hi : i + 6 ≤ G.1.2.1) (hl : G.1.2.1 ≤ 384) (kk : ∀ g' J, Inv (c + 1) G g' J → Rl 153 M_L_law 1495 (LL i) [] g' J K) : Rl 153 M_L_law 908 (LL i) [] g I K := by
  obtain ⟨N, M, So, Si, Pl, Th, He, Wt, T, n, tn, n2, tn2, w, z, kept, hH, hC, hM, hO⟩ := hI
  have G0 := hH.1
  have hg := hH.2.1
  obtain ⟨ok, okw, okk, oks, okh, okt, hw60, h1556⟩ := id hO
  have n14 : n ≤ 14 := ok.2.1
  have m14 : kept = true → n2 ≤ 14 := fun k => (okk k).1.2.1
  have a0 : isAg g 0 9 11 := ga G0 (by decide) rfl
  have a1 : isAg g 101 10 31 := ga G0 (by decide) rfl
  obtain ⟨c1, c2, c3, c4, c5, c6, c7⟩ := id hC
  unfold LL
  repeat' (first
    | ((first | refine T_aload_n (pc1 := 909) (pc := 908) k_L_law_908 rfl rfl ?_ | refine T_aload_nN (pc1 := 909) (pc := 908) k_L_law_908 rfl rfl ?_) <;> try ((first | refine T_aload_n (pc1 := 910) (pc := 909) k_L_law_909 rfl rfl ?_ | refine T_aload_nN (pc1 := 910) (pc := 909) k_L_law_909 rfl rfl ?_) <;> try (refine T_iload_n (pc1 := 911) (pc := 910) k_L_law_910 rfl rfl ?_ <;> try (refine T_iconst (v := (nI 1)) (pc1 := 912) (pc := 911) k_L_law_911 rfl (by decide) ?_ <;> try ((first | with_reducible refine T_iaddN (pc1 := 913) (pc := 912) k_L_law_912 (by decide) ?_ | refine T_iadd (pc1 := 913) (pc := 912) k_L_law_912 rfl ?_) <;> try (refine T_scN (pc1 := 914) (pc := 913) k_L_law_913 rfl (by assumption) (by omega) (by omega) ?_ <;> try ((first | refine T_aload_n (pc1 := 915) (pc := 914) k_L_law_914 rfl rfl ?_ | refine T_aload_nN (pc1 := 915) (pc := 914) k_L_law_914 rfl rfl ?_) <;> try (refine T_iload_n (pc1 := 916) (pc := 915) k_L_law_915 rfl rfl ?_ <;> try (refine T_iconst (v := (nI 2)) (pc1 := 917) (pc := 916) k_L_law_916 rfl (by decide) ?_ <;> try ((first | with_reducible refine T_iaddN (pc1 := 918) (pc := 917) k_L_law_917 (by decide) ?_ | refine T_iadd (pc1 := 918) (pc := 917) k_L_law_917 rfl ?_) <;> try (refine T_scN (pc1 := 919) (pc := 918) k_L_law_918 rfl (by assumption) (by omega) (by omega) ?_ <;> try ((first | refine T_aload_n (pc1 := 920) (pc := 919) k_L_law_919 rfl rfl ?_ | refine T_aload_nN (pc1 := 920) (pc := 919) k_L_law_919 rfl rfl ?_) <;> try (refine T_iload_n (pc1 := 921) (pc := 920) k_L_law_920 rfl rfl ?_ <;> try (refine T_iconst (v := (nI 3)) (pc1 := 922) (pc := 921) k_L_law_921 rfl (by decide) ?_))))))))))))))
    | ((first | with_reducible refine T_iaddN (pc1 := 923) (pc := 922) k_L_law_922 (by decide) ?_ | refine T_iadd (pc1 := 923) (pc := 922) k_L_law_922 rfl ?_) <;> try (refine T_scN (pc1 := 924) (pc := 923) k_L_law_923 rfl (by assumption) (by omega) (by omega) ?_))
    | refine T_aload_n (pc1 := 910) (pc := 909) k_L_law_909 rfl rfl ?_
    | refine T_aload_nN (pc1 := 910) (pc := 909) k_L_law_909 rfl rfl ?_
    | refine T_iload_n (pc1 := 911) (pc := 910) k_L_law_910 rfl rfl ?_
    | refine T_iconst (v := (nI 1)) (pc1 := 912) (pc := 911) k_L_law_911 rfl (by decide) ?_
    | with_reducible refine T_iaddN (pc1 := 913) (pc := 912) k_L_law_912 (by decide) ?_
    | refine T_iadd (pc1 := 913) (pc := 912) k_L_law_912 rfl ?_
    | refine T_scN (pc1 := 914) (pc := 913) k_L_law_913 rfl (by assumption) (by omega) (by omega) ?_
    | refine T_aload_n (pc1 := 915) (pc := 914) k_L_law_914 rfl rfl ?_
    | refine T_aload_nN (pc1 := 915) (pc := 914) k_L_law_914 rfl rfl ?_
    | refine T_iload_n (pc1 := 916) (pc := 915) k_L_law_915 rfl rfl ?_
    | refine T_iconst (v := (nI 2)) (pc1 := 917) (pc := 916) k_L_law_916 rfl (by decide) ?_
    | with_reducible refine T_iaddN (pc1 := 918) (pc := 917) k_L_law_917 (by decide) ?_
    | refine T_iadd (pc1 := 918) (pc := 917) k_L_law_917 rfl ?_
    | refine T_scN (pc1 := 919) (pc := 918) k_L_law_918 rfl (by assumption) (by omega) (by omega) ?_
    | refine T_aload_n (pc1 := 920) (pc := 919) k_L_law_919 rfl rfl ?_
    | refine T_aload_nN (pc1 := 920) (pc := 919) k_L_law_919 rfl rfl ?_
    | refine T_iload_n (pc1 := 921) (pc := 920) k_L_law_920 rfl rfl ?_
    | refine T_iconst (v := (nI 3)) (pc1 := 922) (pc := 921) k_L_law_921 rfl (by decide) ?_
    | refine T_scN (pc1 := 924) (pc := 923) k_L_law_923 rfl (by assumption) (by omega) (by omega) ?_)
  (refine T_cV (As := [_, _, _]) (d1 := 2) (pc1 := 927) (pc := 924) k_L_law_924 rfl (by decide) (Nat.le_of_ble_eq_true rfl) rfl o_S_feed l_L_106 rfl (by assumption) rfl (c_S_feed G0 c7 okt.1 fun J1 r1 f1 S1 e1 => ?_) <;> try dsimp only [psh])
  have C1 := CI_tp hC n14 m14 f1 S1
  have M1 := MI_fr hM f1 (fun i h1 h2 h3 => by unfold tpf at h3; omega)
  obtain ⟨x102, x103, xk, xSo, xSi, xPl, xTh, xHe, xWt, xw, xT, xz⟩ := id M1
  repeat' (first
    | ((first | refine T_aload_n (pc1 := 928) (pc := 927) k_L_law_927 rfl rfl ?_ | refine T_aload_nN (pc1 := 928) (pc := 927) k_L_law_927 rfl rfl ?_) <;> try ((first | refine T_aload_n (pc1 := 929) (pc := 928) k_L_law_928 rfl rfl ?_ | refine T_aload_nN (pc1 := 929) (pc := 928) k_L_law_928 rfl rfl ?_) <;> try (refine T_iload_n (pc1 := 930) (pc := 929) k_L_law_929 rfl rfl ?_ <;> try (refine T_iconst (v := (nI 1)) (pc1 := 931) (pc := 930) k_L_law_930 rfl (by decide) ?_ <;> try ((first | with_reducible refine T_iaddN (pc1 := 932) (pc := 931) k_L_law_931 (by decide) ?_ | refine T_iadd (pc1 := 932) (pc := 931) k_L_law_931 rfl ?_) <;> try (refine T_scN (pc1 := 933) (pc := 932) k_L_law_932 rfl (by assumption) (by omega) (by omega) ?_ <;> try ((first | refine T_aload_n (pc1 := 934) (pc := 933) k_L_law_933 rfl rfl ?_ | refine T_aload_nN (pc1 := 934) (pc := 933) k_L_law_933 rfl rfl ?_) <;> try (refine T_iload_n (pc1 := 935) (pc := 934) k_L_law_934 rfl rfl ?_ <;> try (refine T_iconst (v := (nI 2)) (pc1 := 936) (pc := 935) k_L_law_935 rfl (by decide) ?_ <;> try ((first | with_reducible refine T_iaddN (pc1 := 937) (pc := 936) k_L_law_936 (by decide) ?_ | refine T_iadd (pc1 := 937) (pc := 936) k_L_law_936 rfl ?_) <;> try (refine T_scN (pc1 := 938) (pc := 937) k_L_law_937 rfl (by assumption) (by omega) (by omega) ?_ <;> try ((first | refine T_aload_n (pc1 := 939) (pc := 938) k_L_law_938 rfl rfl ?_ | refine T_aload_nN (pc1 := 939) (pc := 938) k_L_law_938 rfl rfl ?_) <;> try (refine T_iload_n (pc1 := 940) (pc := 939) k_L_law_939 rfl rfl ?_ <;> try (refine T_iconst (v := (nI 3)) (pc1 := 941) (pc := 940) k_L_law_940 rfl (by decide) ?_))))))))))))))
    | ((first | with_reducible refine T_iaddN (pc1 := 942) (pc := 941) k_L_law_941 (by decide) ?_ | refine T_iadd (pc1 := 942) (pc := 941) k_L_law_941 rfl ?_) <;> try (refine T_scN (pc1 := 943) (pc := 942) k_L_law_942 rfl (by assumption) (by omega) (by omega) ?_))
    | refine T_aload_n (pc1 := 929) (pc := 928) k_L_law_928 rfl rfl ?_
    | refine T_aload_nN (pc1 := 929) (pc := 928) k_L_law_928 rfl rfl ?_
    | refine T_iload_n (pc1 := 930) (pc := 929) k_L_law_929 rfl rfl ?_
    | refine T_iconst (v := (nI 1)) (pc1 := 931) (pc := 930) k_L_law_930 rfl (by decide) ?_
    | with_reducible refine T_iaddN (pc1 := 932) (pc := 931) k_L_law_931 (by decide) ?_
    | refine T_iadd (pc1 := 932) (pc := 931) k_L_law_931 rfl ?_
    | refine T_scN (pc1 := 933) (pc := 932) k_L_law_932 rfl (by assumption) (by omega) (by omega) ?_
    | refine T_aload_n (pc1 := 934) (pc := 933) k_L_law_933 rfl rfl ?_
    | refine T_aload_nN (pc1 := 934) (pc := 933) k_L_law_933 rfl rfl ?_
    | refine T_iload_n (pc1 := 935) (pc := 934) k_L_law_934 rfl rfl ?_
    | refine T_iconst (v := (nI 2)) (pc1 := 936) (pc := 935) k_L_law_935 rfl (by decide) ?_
    | with_reducible refine T_iaddN (pc1 := 937) (pc := 936) k_L_law_936 (by decide) ?_
    | refine T_iadd (pc1 := 937) (pc := 936) k_L_law_936 rfl ?_
    | refine T_scN (pc1 := 938) (pc := 937) k_L_law_937 rfl (by assumption) (by omega) (by omega) ?_
    | refine T_aload_n (pc1 := 939) (pc := 938) k_L_law_938 rfl rfl ?_
    | refine T_aload_nN (pc1 := 939) (pc := 938) k_L_law_938 rfl rfl ?_
    | refine T_iload_n (pc1 := 940) (pc := 939) k_L_law_939 rfl rfl ?_
    | refine T_iconst (v := (nI 3)) (pc1 := 941) (pc := 940) k_L_law_940 rfl (by decide) ?_
    | refine T_scN (pc1 := 943) (pc := 942) k_L_law_942 rfl (by assumption) (by omega) (by omega) ?_)
  (refine T_cV (As := [_, _, _]) (d1 := 2) (pc1 := 946) (pc := 943) k_L_law_943 rfl (by decide) (Nat.le_of_ble_eq_true rfl) rfl o_M_feed l_L_109 rfl (by assumption) rfl (c_M_feed G0 xT xz okt.1 fun J2 r2 f2 q1 q2 e2 => ?_) <;> try dsimp only [psh])
  refine T_icmp_eq_t k_L_law_946 rfl (e1.trans e2.symm) ?_
  refine kk g J2 ⟨N, M, So, Si, Pl, Th, He, Wt, _, n, tn, n2, tn2, w, _, kept, HI_s hH, CI_mo C1 n14 m14 (eqx_fre f2 (by decide)), ?_, ⟨ok, okw, okk, oks, okh, feed_okp okt, hw60, h1556⟩⟩
  unfold MI
  rw [q2, f2 102 (by decide), f2 103 (by decide), f2 114 (by decide), f2 115 (by decide), f2 116 (by decide), f2 118 (by decide), f2 119 (by decide), f2 120 (by decide), va_up_ne _ _ (by decide), va_up_ne _ _ (by decide), va_up_self]
  exact ⟨x102, x103, xk, xSo, xSi, xPl, xTh, xHe, xWt, xw, q1, rfl⟩
end L6
