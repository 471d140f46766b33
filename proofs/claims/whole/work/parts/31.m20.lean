/-! The model: count, check. -/
section M20
variable {g : Geo} {I : IM} {K : Option Value → Geo → IM → Prop}
set_option maxHeartbeats 4000000 in
theorem c_M_count {N : Row} {n tn w z : Nat} {v : Int32} (G : GeoOK g) (hN : I 102 = N) (ok : okL N n tn) (hw : I 101 30 = nI w) (hz : I 101 8 = nI z) (kk : ∀ r, r = countA N n w z v → K (some (.int r)) g I) : Cl 3 M_M_count [.ref 101, .int v] g I K := by
  show Rl 3 M_M_count 0 [some (.ref 101), some (.int v), none, none] [] g I K
  obtain ⟨hn, h14, -⟩ := id ok
  by_cases hv : rg 11 v
  · obtain ⟨q, hq, rfl⟩ := rg_of hv (by omega)
    have loop : ∀ q b, b + q = n → (∀ r, r = nI (hsC N n) → K (some (.int r)) g I) → Rl 3 M_M_count 81 [some (.ref 101), some (.int (nI 6)), some (.int (nI (hsC N b))), some (.int (nI b))] [] g I K := by
      intro q
      induction q with
      | zero =>
        intro b hb kk
        have hb : b = n := by omega
        subst hb
        have hle := hsC_le N b
        repeat' (first
          | refine T_iload_n (pc1 := 82) (pc := 81) k_M_count_81 rfl rfl ?_
          | refine T_aload_n (pc1 := 83) (pc := 82) k_M_count_82 rfl rfl ?_
          | refine T_aload_nN (pc1 := 83) (pc := 82) k_M_count_82 rfl rfl ?_
          | refine T_getR (pc1 := 86) (pc := 83) k_M_count_83 rfl f_M_9 rfl (by first | exact ga G (by decide) rfl | assumption) (by first | exact gr G (by decide) rfl | assumption) ?_
          | refine T_iconst (v := (nI 5)) (pc1 := 87) (pc := 86) k_M_count_86 rfl (by decide) ?_
          | refine T_ialdN (pc1 := 88) (pc := 87) k_M_count_87 rfl (by first | exact ga G (by decide) rfl | assumption) (by omega) (by omega) (by first | assumption | (simp (disch := omega) only [pI_eq, pI_row, pI_col, va_up_self, va_up_ne, ne_eq, not_false_eq_true, hN, hn] <;> rfl) | rfl) ?_
          | refine T_iald (pc1 := 88) (pc := 87) k_M_count_87 rfl (by first | exact ga G (by decide) rfl | assumption) (by assumption) ?_
          | (with_reducible refine T_icmp_geN (tgt := 116) (pc1 := 91) (pc := 88) k_M_count_88 (by decide) (by decide) (by omega) (by omega) (fun hc => ?_) (fun hc => ?_) <;> first | (exfalso; omega) | skip)
          | refine T_icmp_ge_t (tgt := 116) (pc := 88) k_M_count_88 rfl (by decide) ?_
          | refine T_icmp_ge_f (tgt := 116) (pc1 := 91) (pc := 88) k_M_count_88 rfl rfl (by decide) ?_
          | refine T_icmp_ge (tgt := 116) (pc1 := 91) (pc := 88) k_M_count_88 rfl rfl (fun hc => ?_) (fun hc => ?_)
          | refine T_iload_n (pc1 := 92) (pc := 91) k_M_count_91 rfl rfl ?_
          | refine T_aload_n (pc1 := 93) (pc := 92) k_M_count_92 rfl rfl ?_
          | refine T_aload_nN (pc1 := 93) (pc := 92) k_M_count_92 rfl rfl ?_
          | refine T_iload_n (pc1 := 94) (pc := 93) k_M_count_93 rfl rfl ?_
          | refine T_iconst (v := (nI 5)) (pc1 := 95) (pc := 94) k_M_count_94 rfl (by decide) ?_
          | (refine T_cV (As := [_, _]) (d1 := 1) (pc1 := 98) (pc := 95) k_M_count_95 rfl (by decide) (Nat.le_of_ble_eq_true rfl) rfl o_M_bitIs l_M_124 rfl (by first | exact ga G (by decide) rfl | assumption) rfl (c_M_bitN G (by assumption) (by omega) (by omega) (by first | assumption | rfl) ?_) <;> try dsimp only [psh])
          | refine T_ldc (v := (-1000000005)) (pc1 := 100) (pc := 98) k_M_count_98 rfl c_M_103 ?_
          | (with_reducible refine T_icmp_neN (tgt := 107) (pc1 := 103) (pc := 100) k_M_count_100 (by decide) (by decide) (by omega) (by omega) (fun hc => ?_) (fun hc => ?_) <;> first | (exfalso; omega) | skip)
          | refine T_icmp_ne_t (tgt := 107) (pc := 100) k_M_count_100 rfl (by decide) ?_
          | refine T_icmp_ne_f (tgt := 107) (pc1 := 103) (pc := 100) k_M_count_100 rfl rfl (by decide) ?_
          | refine T_icmp_ne (tgt := 107) (pc1 := 103) (pc := 100) k_M_count_100 rfl rfl (fun hc => ?_) (fun hc => ?_)
          | refine T_iconst (v := (nI 0)) (pc1 := 104) (pc := 103) k_M_count_103 rfl (by decide) ?_
          | refine T_goto (tgt := 108) (pc := 104) k_M_count_104 rfl ?_
          | refine T_iconst (v := (nI 1)) (pc1 := 108) (pc := 107) k_M_count_107 rfl (by decide) ?_
          | with_reducible refine T_iaddN (pc1 := 109) (pc := 108) k_M_count_108 (by decide) ?_
          | refine T_iadd (pc1 := 109) (pc := 108) k_M_count_108 rfl ?_
          | refine T_istore_n (pc1 := 110) (pc := 109) k_M_count_109 rfl (Nat.le_of_ble_eq_true rfl) ?_
          | refine T_iincN (b := 1) (pc1 := 113) (pc := 110) k_M_count_110 rfl rfl (by decide) ?_
          | refine T_iinc (v := (nI 1)) (pc1 := 113) (pc := 110) k_M_count_110 rfl rfl (by decide) ?_
          | refine T_goto (tgt := 81) (pc := 113) k_M_count_113 rfl ?_
          | refine T_iload_n (pc1 := 117) (pc := 116) k_M_count_116 rfl rfl ?_
          | refine T_retI (pc := 117) k_M_count_117 rfl (by first | rfl | decide | assumption) ?_)
        exact kk _ rfl
      | succ q ih =>
        intro b hb kk
        have hle := hsC_le N b
        have ih := ih (b + 1) (by omega) kk
        rw [hsC] at ih
        refine T_iload_n (pc1 := 82) (pc := 81) k_M_count_81 rfl rfl ?_
        repeat' (first
          | refine T_aload_n (pc1 := 83) (pc := 82) k_M_count_82 rfl rfl ?_
          | refine T_aload_nN (pc1 := 83) (pc := 82) k_M_count_82 rfl rfl ?_
          | refine T_getR (pc1 := 86) (pc := 83) k_M_count_83 rfl f_M_9 rfl (by first | exact ga G (by decide) rfl | assumption) (by first | exact gr G (by decide) rfl | assumption) ?_
          | refine T_iconst (v := (nI 5)) (pc1 := 87) (pc := 86) k_M_count_86 rfl (by decide) ?_
          | refine T_ialdN (pc1 := 88) (pc := 87) k_M_count_87 rfl (by first | exact ga G (by decide) rfl | assumption) (by omega) (by omega) (by first | assumption | (simp (disch := omega) only [pI_eq, pI_row, pI_col, va_up_self, va_up_ne, ne_eq, not_false_eq_true, hN, hn] <;> rfl) | rfl) ?_
          | refine T_iald (pc1 := 88) (pc := 87) k_M_count_87 rfl (by first | exact ga G (by decide) rfl | assumption) (by assumption) ?_
          | (with_reducible refine T_icmp_geN (tgt := 116) (pc1 := 91) (pc := 88) k_M_count_88 (by decide) (by decide) (by omega) (by omega) (fun hc => ?_) (fun hc => ?_) <;> first | (exfalso; omega) | skip)
          | refine T_icmp_ge_t (tgt := 116) (pc := 88) k_M_count_88 rfl (by decide) ?_
          | refine T_icmp_ge_f (tgt := 116) (pc1 := 91) (pc := 88) k_M_count_88 rfl rfl (by decide) ?_
          | refine T_icmp_ge (tgt := 116) (pc1 := 91) (pc := 88) k_M_count_88 rfl rfl (fun hc => ?_) (fun hc => ?_)
          | refine T_iload_n (pc1 := 92) (pc := 91) k_M_count_91 rfl rfl ?_
          | refine T_aload_n (pc1 := 93) (pc := 92) k_M_count_92 rfl rfl ?_
          | refine T_aload_nN (pc1 := 93) (pc := 92) k_M_count_92 rfl rfl ?_
          | refine T_iload_n (pc1 := 94) (pc := 93) k_M_count_93 rfl rfl ?_
          | refine T_iconst (v := (nI 5)) (pc1 := 95) (pc := 94) k_M_count_94 rfl (by decide) ?_
          | (refine T_cV (As := [_, _]) (d1 := 1) (pc1 := 98) (pc := 95) k_M_count_95 rfl (by decide) (Nat.le_of_ble_eq_true rfl) rfl o_M_bitIs l_M_124 rfl (by first | exact ga G (by decide) rfl | assumption) rfl (c_M_bitN (N := N) G hN (by omega) (by omega) rfl ?_) <;> try dsimp only [psh])
          | refine T_ldc (v := (-1000000005)) (pc1 := 100) (pc := 98) k_M_count_98 rfl c_M_103 ?_
          | (with_reducible refine T_icmp_neN (tgt := 107) (pc1 := 103) (pc := 100) k_M_count_100 (by decide) (by decide) (by omega) (by omega) (fun hc => ?_) (fun hc => ?_) <;> first | (exfalso; omega) | skip)
          | refine T_icmp_ne_t (tgt := 107) (pc := 100) k_M_count_100 rfl (by decide) ?_
          | refine T_icmp_ne_f (tgt := 107) (pc1 := 103) (pc := 100) k_M_count_100 rfl rfl (by decide) ?_
          | refine T_icmp_ne (tgt := 107) (pc1 := 103) (pc := 100) k_M_count_100 rfl rfl (fun hc => ?_) (fun hc => ?_)
          | refine T_iconst (v := (nI 0)) (pc1 := 104) (pc := 103) k_M_count_103 rfl (by decide) ?_
          | refine T_goto (tgt := 108) (pc := 104) k_M_count_104 rfl ?_
          | refine T_iconst (v := (nI 1)) (pc1 := 108) (pc := 107) k_M_count_107 rfl (by decide) ?_
          | with_reducible refine T_iaddN (pc1 := 109) (pc := 108) k_M_count_108 (by decide) ?_
          | refine T_iadd (pc1 := 109) (pc := 108) k_M_count_108 rfl ?_
          | refine T_istore_n (pc1 := 110) (pc := 109) k_M_count_109 rfl (Nat.le_of_ble_eq_true rfl) ?_
          | refine T_iincN (b := 1) (pc1 := 113) (pc := 110) k_M_count_110 rfl rfl (by decide) ?_
          | refine T_iinc (v := (nI 1)) (pc1 := 113) (pc := 110) k_M_count_110 rfl rfl (by decide) ?_
          | refine T_goto (tgt := 81) (pc := 113) k_M_count_113 rfl ?_
          | refine T_iload_n (pc1 := 117) (pc := 116) k_M_count_116 rfl rfl ?_
          | refine T_retI (pc := 117) k_M_count_117 rfl (by first | rfl | decide | assumption) ?_)
        · rw [if_neg (by assumption)] at ih
          exact ih
        · rw [if_pos (Decidable.not_not.mp (by assumption))] at ih
          exact ih
    obtain rfl | rfl | rfl | rfl | rfl | rfl | rfl | rfl | rfl | rfl | rfl : q = 0 ∨ q = 1 ∨ q = 2 ∨ q = 3 ∨ q = 4 ∨ q = 5 ∨ q = 6 ∨ q = 7 ∨ q = 8 ∨ q = 9 ∨ q = 10 := by omega
    all_goals
      repeat' (first
        | refine T_iconst (v := (nI 0)) (pc1 := 1) (pc := 0) k_M_count_0 rfl (by decide) ?_
        | refine T_istore_n (pc1 := 2) (pc := 1) k_M_count_1 rfl (Nat.le_of_ble_eq_true rfl) ?_
        | refine T_iload_n (pc1 := 3) (pc := 2) k_M_count_2 rfl rfl ?_
        | (with_reducible refine swN_M_count_3 (by omega) (fun hc => ?_) (fun hc => ?_) (fun hc => ?_) (fun hc => ?_) (fun hc => ?_) (fun hc => ?_) (fun hc => ?_) (fun hc => ?_) (fun hc => ?_) (fun hc => ?_) (fun hc => ?_) (fun hc => ?_) <;> first | (exfalso; omega) | skip)
        | refine sw_M_count_3 (fun hc => ?_) (fun hc => ?_) (fun hc => ?_) (fun hc => ?_) (fun hc => ?_) (fun hc => ?_) (fun hc => ?_) (fun hc => ?_) (fun hc => ?_) (fun hc => ?_) (fun hc => ?_) (fun hc => ?_)
        | refine T_aload_n (pc1 := 61) (pc := 60) k_M_count_60 rfl rfl ?_
        | refine T_aload_nN (pc1 := 61) (pc := 60) k_M_count_60 rfl rfl ?_
        | refine T_getR (pc1 := 64) (pc := 61) k_M_count_61 rfl f_M_9 rfl (by first | exact ga G (by decide) rfl | assumption) (by first | exact gr G (by decide) rfl | assumption) ?_
        | refine T_iconst (v := (nI 5)) (pc1 := 65) (pc := 64) k_M_count_64 rfl (by decide) ?_
        | refine T_ialdN (pc1 := 66) (pc := 65) k_M_count_65 rfl (by first | exact ga G (by decide) rfl | assumption) (by omega) (by omega) (by first | assumption | (simp (disch := omega) only [pI_eq, pI_row, pI_col, va_up_self, va_up_ne, ne_eq, not_false_eq_true, hN] <;> rfl) | rfl) ?_
        | refine T_iald (pc1 := 66) (pc := 65) k_M_count_65 rfl (by first | exact ga G (by decide) rfl | assumption) (by assumption) ?_
        | refine T_retI (pc := 66) k_M_count_66 rfl (by first | rfl | decide | assumption) ?_
        | refine T_aload_n (pc1 := 68) (pc := 67) k_M_count_67 rfl rfl ?_
        | refine T_aload_nN (pc1 := 68) (pc := 67) k_M_count_67 rfl rfl ?_
        | refine T_getR (pc1 := 71) (pc := 68) k_M_count_68 rfl f_M_9 rfl (by first | exact ga G (by decide) rfl | assumption) (by first | exact gr G (by decide) rfl | assumption) ?_
        | refine T_iload_n (pc1 := 72) (pc := 71) k_M_count_71 rfl rfl ?_
        | refine T_ialdN (pc1 := 73) (pc := 72) k_M_count_72 rfl (by first | exact ga G (by decide) rfl | assumption) (by omega) (by omega) (by first | assumption | (simp (disch := omega) only [pI_eq, pI_row, pI_col, va_up_self, va_up_ne, ne_eq, not_false_eq_true, hN] <;> rfl) | rfl) ?_
        | refine T_iald (pc1 := 73) (pc := 72) k_M_count_72 rfl (by first | exact ga G (by decide) rfl | assumption) (by assumption) ?_
        | refine T_retI (pc := 73) k_M_count_73 rfl (by first | rfl | decide | assumption) ?_
        | refine T_aload_n (pc1 := 75) (pc := 74) k_M_count_74 rfl rfl ?_
        | refine T_aload_nN (pc1 := 75) (pc := 74) k_M_count_74 rfl rfl ?_
        | (refine T_cV (As := []) (d1 := 2) (pc1 := 78) (pc := 75) k_M_count_75 rfl (by decide) (Nat.le_of_ble_eq_true rfl) rfl o_M_trodden l_M_316 rfl (by first | exact ga G (by decide) rfl | assumption) rfl (c_M_trodden G hN hn h14 ?_) <;> try dsimp only [psh])
        | refine T_retI (pc := 78) k_M_count_78 rfl (by first | rfl | decide | assumption) ?_
        | refine T_iconst (v := (nI 0)) (pc1 := 80) (pc := 79) k_M_count_79 rfl (by decide) ?_
        | refine T_istore_n (pc1 := 81) (pc := 80) k_M_count_80 rfl (Nat.le_of_ble_eq_true rfl) ?_
        | refine T_aload_n (pc1 := 83) (pc := 82) k_M_count_82 rfl rfl ?_
        | refine T_aload_nN (pc1 := 83) (pc := 82) k_M_count_82 rfl rfl ?_
        | refine T_getR (pc1 := 86) (pc := 83) k_M_count_83 rfl f_M_9 rfl (by first | exact ga G (by decide) rfl | assumption) (by first | exact gr G (by decide) rfl | assumption) ?_
        | refine T_iconst (v := (nI 5)) (pc1 := 87) (pc := 86) k_M_count_86 rfl (by decide) ?_
        | refine T_ialdN (pc1 := 88) (pc := 87) k_M_count_87 rfl (by first | exact ga G (by decide) rfl | assumption) (by omega) (by omega) (by first | assumption | (simp (disch := omega) only [pI_eq, pI_row, pI_col, va_up_self, va_up_ne, ne_eq, not_false_eq_true, hN] <;> rfl) | rfl) ?_
        | refine T_iald (pc1 := 88) (pc := 87) k_M_count_87 rfl (by first | exact ga G (by decide) rfl | assumption) (by assumption) ?_
        | (with_reducible refine T_icmp_geN (tgt := 116) (pc1 := 91) (pc := 88) k_M_count_88 (by decide) (by decide) (by omega) (by omega) (fun hc => ?_) (fun hc => ?_) <;> first | (exfalso; omega) | skip)
        | refine T_icmp_ge_t (tgt := 116) (pc := 88) k_M_count_88 rfl (by decide) ?_
        | refine T_icmp_ge_f (tgt := 116) (pc1 := 91) (pc := 88) k_M_count_88 rfl rfl (by decide) ?_
        | refine T_icmp_ge (tgt := 116) (pc1 := 91) (pc := 88) k_M_count_88 rfl rfl (fun hc => ?_) (fun hc => ?_)
        | refine T_iload_n (pc1 := 92) (pc := 91) k_M_count_91 rfl rfl ?_
        | refine T_aload_n (pc1 := 93) (pc := 92) k_M_count_92 rfl rfl ?_
        | refine T_aload_nN (pc1 := 93) (pc := 92) k_M_count_92 rfl rfl ?_
        | refine T_iload_n (pc1 := 94) (pc := 93) k_M_count_93 rfl rfl ?_
        | refine T_iconst (v := (nI 5)) (pc1 := 95) (pc := 94) k_M_count_94 rfl (by decide) ?_
        | (refine T_cV (As := [_, _]) (d1 := 1) (pc1 := 98) (pc := 95) k_M_count_95 rfl (by decide) (Nat.le_of_ble_eq_true rfl) rfl o_M_bitIs l_M_124 rfl (by first | exact ga G (by decide) rfl | assumption) rfl (c_M_bitN (N := N) G hN (by omega) (by omega) rfl ?_) <;> try dsimp only [psh])
        | refine T_ldc (v := (-1000000005)) (pc1 := 100) (pc := 98) k_M_count_98 rfl c_M_103 ?_
        | (with_reducible refine T_icmp_neN (tgt := 107) (pc1 := 103) (pc := 100) k_M_count_100 (by decide) (by decide) (by omega) (by omega) (fun hc => ?_) (fun hc => ?_) <;> first | (exfalso; omega) | skip)
        | refine T_icmp_ne_t (tgt := 107) (pc := 100) k_M_count_100 rfl (by decide) ?_
        | refine T_icmp_ne_f (tgt := 107) (pc1 := 103) (pc := 100) k_M_count_100 rfl rfl (by decide) ?_
        | refine T_icmp_ne (tgt := 107) (pc1 := 103) (pc := 100) k_M_count_100 rfl rfl (fun hc => ?_) (fun hc => ?_)
        | refine T_iconst (v := (nI 0)) (pc1 := 104) (pc := 103) k_M_count_103 rfl (by decide) ?_
        | refine T_goto (tgt := 108) (pc := 104) k_M_count_104 rfl ?_
        | refine T_iconst (v := (nI 1)) (pc1 := 108) (pc := 107) k_M_count_107 rfl (by decide) ?_
        | with_reducible refine T_iaddN (pc1 := 109) (pc := 108) k_M_count_108 (by decide) ?_
        | refine T_iadd (pc1 := 109) (pc := 108) k_M_count_108 rfl ?_
        | refine T_istore_n (pc1 := 110) (pc := 109) k_M_count_109 rfl (Nat.le_of_ble_eq_true rfl) ?_
        | refine T_iincN (b := 1) (pc1 := 113) (pc := 110) k_M_count_110 rfl rfl (by decide) ?_
        | refine T_iinc (v := (nI 1)) (pc1 := 113) (pc := 110) k_M_count_110 rfl rfl (by decide) ?_
        | refine T_goto (tgt := 81) (pc := 113) k_M_count_113 rfl ?_
        | refine T_iload_n (pc1 := 117) (pc := 116) k_M_count_116 rfl rfl ?_
        | refine T_retI (pc := 117) k_M_count_117 rfl (by first | rfl | decide | assumption) ?_
        | refine T_aload_n (pc1 := 119) (pc := 118) k_M_count_118 rfl rfl ?_
        | refine T_aload_nN (pc1 := 119) (pc := 118) k_M_count_118 rfl rfl ?_
        | refine T_getR (pc1 := 122) (pc := 119) k_M_count_119 rfl f_M_9 rfl (by first | exact ga G (by decide) rfl | assumption) (by first | exact gr G (by decide) rfl | assumption) ?_
        | refine T_bipush (v := (nI 6)) (pc1 := 124) (pc := 122) k_M_count_122 rfl (by decide) ?_
        | refine T_ialdN (pc1 := 125) (pc := 124) k_M_count_124 rfl (by first | exact ga G (by decide) rfl | assumption) (by omega) (by omega) (by first | assumption | (simp (disch := omega) only [pI_eq, pI_row, pI_col, va_up_self, va_up_ne, ne_eq, not_false_eq_true, hN] <;> rfl) | rfl) ?_
        | refine T_iald (pc1 := 125) (pc := 124) k_M_count_124 rfl (by first | exact ga G (by decide) rfl | assumption) (by assumption) ?_
        | refine T_retI (pc := 125) k_M_count_125 rfl (by first | rfl | decide | assumption) ?_
        | refine T_aload_n (pc1 := 127) (pc := 126) k_M_count_126 rfl rfl ?_
        | refine T_aload_nN (pc1 := 127) (pc := 126) k_M_count_126 rfl rfl ?_
        | refine T_getV (pc1 := 130) (pc := 127) k_M_count_127 rfl f_M_307 rfl (by first | exact ga G (by decide) rfl | assumption) (by first | assumption | (simp (disch := omega) only [pI_eq, pI_row, pI_col, va_up_self, va_up_ne, ne_eq, not_false_eq_true, hN] <;> rfl) | rfl) ?_
        | refine T_retI (pc := 130) k_M_count_130 rfl (by first | rfl | decide | assumption) ?_
        | refine T_aload_n (pc1 := 132) (pc := 131) k_M_count_131 rfl rfl ?_
        | refine T_aload_nN (pc1 := 132) (pc := 131) k_M_count_131 rfl rfl ?_
        | refine T_getV (pc1 := 135) (pc := 132) k_M_count_132 rfl f_M_200 rfl (by first | exact ga G (by decide) rfl | assumption) (by first | assumption | (simp (disch := omega) only [pI_eq, pI_row, pI_col, va_up_self, va_up_ne, ne_eq, not_false_eq_true, hN] <;> rfl) | rfl) ?_
        | refine T_retI (pc := 135) k_M_count_135 rfl (by first | rfl | decide | assumption) ?_
        | refine T_aload_n (pc1 := 137) (pc := 136) k_M_count_136 rfl rfl ?_
        | refine T_aload_nN (pc1 := 137) (pc := 136) k_M_count_136 rfl rfl ?_
        | refine T_getR (pc1 := 140) (pc := 137) k_M_count_137 rfl f_M_9 rfl (by first | exact ga G (by decide) rfl | assumption) (by first | exact gr G (by decide) rfl | assumption) ?_
        | refine T_iconst (v := (nI 0)) (pc1 := 141) (pc := 140) k_M_count_140 rfl (by decide) ?_
        | refine T_ialdN (pc1 := 142) (pc := 141) k_M_count_141 rfl (by first | exact ga G (by decide) rfl | assumption) (by omega) (by omega) (by first | assumption | (simp (disch := omega) only [pI_eq, pI_row, pI_col, va_up_self, va_up_ne, ne_eq, not_false_eq_true, hN] <;> rfl) | rfl) ?_
        | refine T_iald (pc1 := 142) (pc := 141) k_M_count_141 rfl (by first | exact ga G (by decide) rfl | assumption) (by assumption) ?_
        | refine T_retI (pc := 142) k_M_count_142 rfl (by first | rfl | decide | assumption) ?_
        | refine T_ldc (v := (-1000000001)) (pc1 := 145) (pc := 143) k_M_count_143 rfl c_M_111 ?_
        | refine T_retI (pc := 145) k_M_count_145 rfl (by first | rfl | decide | assumption) ?_)
      first | exact kk _ rfl | exact loop n 0 (by omega) (fun r hr => kk r hr)
  · rw [count_bad hv] at kk
    refine T_iconst (v := (nI 0)) (pc1 := 1) (pc := 0) k_M_count_0 rfl (by decide) ?_
    refine T_istore_n (pc1 := 2) (pc := 1) k_M_count_1 rfl (Nat.le_of_ble_eq_true rfl) ?_
    refine T_iload_n (pc1 := 3) (pc := 2) k_M_count_2 rfl rfl ?_
    refine sw_M_count_3 (fun hc => ?_) (fun hc => ?_) (fun hc => ?_) (fun hc => ?_) (fun hc => ?_) (fun hc => ?_) (fun hc => ?_) (fun hc => ?_) (fun hc => ?_) (fun hc => ?_) (fun hc => ?_) (fun hc => ?_)
    all_goals first | (exfalso; exact hv ⟨by omega, by omega⟩) | skip
    repeat' (first
      | refine T_ldc (v := (-1000000001)) (pc1 := 145) (pc := 143) k_M_count_143 rfl c_M_111 ?_
      | refine T_retI (pc := 145) k_M_count_145 rfl (by first | rfl | decide | assumption) ?_)
    exact kk _ rfl
set_option maxHeartbeats 8000000 in
theorem c_M_check {N M Wt : Row} {n tn w : Nat} {kept : Bool} {f t m : Int32} (G : GeoOK g) (hN : I 102 = N) (hM : I 103 = M) (hz : ∀ k, 1556 ≤ k → N k = M k) (hkp : I 101 2 = nI (if kept = true then 1 else 0)) (ok : kept = true → okL M n tn) (hw : I 101 30 = nI w) (hw60 : w ≤ 60) (hWt : I 120 = Wt) (kk : ∀ J r, eqx [101, 104, 105, 106, 112, 113] I J → J 101 = va_up (I 101) 30 (nI 0) → r = checkA M n tn kept w Wt f t m → K (some (.int r)) g J) : Cl 6 M_M_check [.ref 101, .int f, .int t, .int m] g I K := by
  show Rl 6 M_M_check 0 [some (.ref 101), some (.int f), some (.int t), some (.int m), none, none, none, none] [] g I K
  have e1 : (nI 1).toInt = 1 := rfl
  have e30 : (nI 30).toInt = 30 := rfl
  have x0 : eqx [101, 104, 105, 106, 112, 113] I (pI I 101 30 (nI 0)) := eqx_pI eqx_rf _ (by decide)
  have y0 : pI I 101 30 (nI 0) 101 = va_up (I 101) 30 (nI 0) := pI_self
  by_cases hok : (rg 8 f ∧ rg 8 t) ∧ bt 1 30 m
  · rw [checkA, if_pos hok] at kk
    obtain ⟨fr, hf, rfl⟩ := rg_of hok.1.1 (by omega)
    obtain ⟨to0, ht, rfl⟩ := rg_of hok.1.2 (by omega)
    obtain ⟨x, hx1, hx, rfl⟩ := bt_of (lo := 1) (hi := 30) hok.2 (by omega)
    have ex := nI_toInt (n := x) (by omega)
    rw [nI_clamp (by omega), nI_clamp (by omega), nI_clamp (by omega)] at kk
    have c1 := hok.1
    cases kept with
    | false =>
      rw [if_neg (by decide)] at kk
      rw [if_neg (by decide)] at hkp
      repeat' (first
        | refine T_aload_n (pc1 := 1) (pc := 0) k_M_check_0 rfl rfl ?_
        | refine T_aload_nN (pc1 := 1) (pc := 0) k_M_check_0 rfl rfl ?_
        | refine T_getV (pc1 := 4) (pc := 1) k_M_check_1 rfl f_M_307 rfl (by first | exact ga G (by decide) rfl | assumption) (by first | assumption | (simp (disch := omega) only [pI_eq, pI_row, pI_col, va_up_self, va_up_ne, ne_eq, not_false_eq_true] <;> rfl) | rfl) ?_
        | refine T_istore (pc1 := 6) (pc := 4) k_M_check_4 rfl (Nat.le_of_ble_eq_true rfl) ?_
        | refine T_aload_n (pc1 := 7) (pc := 6) k_M_check_6 rfl rfl ?_
        | refine T_aload_nN (pc1 := 7) (pc := 6) k_M_check_6 rfl rfl ?_
        | refine T_iconst (v := (nI 0)) (pc1 := 8) (pc := 7) k_M_check_7 rfl (by decide) ?_
        | refine T_putI (pc1 := 11) (pc := 8) k_M_check_8 rfl f_M_307 rfl (by first | exact ga G (by decide) rfl | assumption) (by first | rfl | decide | assumption) (by first | rfl | decide | assumption) ?_
        | refine T_iload_n (pc1 := 12) (pc := 11) k_M_check_11 rfl rfl ?_
        | refine T_iload_n (pc1 := 13) (pc := 12) k_M_check_12 rfl rfl ?_
        | (refine T_cS (As := [_, _]) (d1 := 3) (pc1 := 16) (pc := 13) k_M_check_13 rfl (by decide) (Nat.le_of_ble_eq_true rfl) rfl o_M_areSpots l_M_107 rfl (c_M_areSpots (fun hw => ?_) (fun hw => ?_)) <;> try dsimp only [psh])
        | (with_reducible refine T_if_eqN (tgt := 29) (pc1 := 19) (pc := 16) k_M_check_16 (by decide) (by decide) (by omega) (fun hc => ?_) (fun hc => ?_) <;> first | (exfalso; omega) | skip)
        | refine T_if_eq_t (tgt := 29) (pc := 16) k_M_check_16 rfl (by decide) ?_
        | refine T_if_eq_f (tgt := 29) (pc1 := 19) (pc := 16) k_M_check_16 rfl rfl (by decide) ?_
        | refine T_if_eq (tgt := 29) (pc1 := 19) (pc := 16) k_M_check_16 rfl rfl (fun hc => ?_) (fun hc => ?_)
        | refine T_iload_n (pc1 := 20) (pc := 19) k_M_check_19 rfl rfl ?_
        | refine T_iconst (v := (nI 1)) (pc1 := 21) (pc := 20) k_M_check_20 rfl (by decide) ?_
        | refine T_bipush (v := (nI 30)) (pc1 := 23) (pc := 21) k_M_check_21 rfl (by decide) ?_
        | (refine T_cS (As := [_, _, _]) (d1 := 1) (pc1 := 26) (pc := 23) k_M_check_23 rfl (by decide) (Nat.le_of_ble_eq_true rfl) rfl o_M_within l_M_95 rfl (c_M_within (fun hw => ?_) (fun hw => ?_)) <;> try dsimp only [psh])
        | (with_reducible refine T_if_neN (tgt := 32) (pc1 := 29) (pc := 26) k_M_check_26 (by decide) (by decide) (by omega) (fun hc => ?_) (fun hc => ?_) <;> first | (exfalso; omega) | skip)
        | refine T_if_ne_t (tgt := 32) (pc := 26) k_M_check_26 rfl (by decide) ?_
        | refine T_if_ne_f (tgt := 32) (pc1 := 29) (pc := 26) k_M_check_26 rfl rfl (by decide) ?_
        | refine T_if_ne (tgt := 32) (pc1 := 29) (pc := 26) k_M_check_26 rfl rfl (fun hc => ?_) (fun hc => ?_)
        | refine T_ldc (v := (-1000000001)) (pc1 := 31) (pc := 29) k_M_check_29 rfl c_M_111 ?_
        | refine T_retI (pc := 31) k_M_check_31 rfl (by first | rfl | decide | assumption) ?_
        | refine T_aload_n (pc1 := 33) (pc := 32) k_M_check_32 rfl rfl ?_
        | refine T_aload_nN (pc1 := 33) (pc := 32) k_M_check_32 rfl rfl ?_
        | refine T_getV (pc1 := 36) (pc := 33) k_M_check_33 rfl f_M_310 rfl (by first | exact ga G (by decide) rfl | assumption) (by first | assumption | (simp (disch := omega) only [pI_eq, pI_row, pI_col, va_up_self, va_up_ne, ne_eq, not_false_eq_true] <;> rfl) | rfl) ?_
        | (with_reducible refine T_if_neN (tgt := 43) (pc1 := 39) (pc := 36) k_M_check_36 (by decide) (by decide) (by omega) (fun hc => ?_) (fun hc => ?_) <;> first | (exfalso; omega) | skip)
        | refine T_if_ne_t (tgt := 43) (pc := 36) k_M_check_36 rfl (by decide) ?_
        | refine T_if_ne_f (tgt := 43) (pc1 := 39) (pc := 36) k_M_check_36 rfl rfl (by decide) ?_
        | refine T_if_ne (tgt := 43) (pc1 := 39) (pc := 36) k_M_check_36 rfl rfl (fun hc => ?_) (fun hc => ?_)
        | refine T_ldcw (v := (-1000000002)) (pc1 := 42) (pc := 39) k_M_check_39 rfl c_M_306 ?_
        | refine T_retI (pc := 42) k_M_check_42 rfl (by first | rfl | decide | assumption) ?_)
      all_goals first | exact kk _ _ x0 y0 rfl | (exfalso; exact hw c1) | contradiction | (exfalso; apply hw; constructor <;> omega)
    | true =>
      rw [if_pos rfl] at kk hkp
      have ok := ok rfl
      obtain ⟨hn, h14, -⟩ := id ok
      have fin : ∀ k r o7 (J : IM), r ≤ 100 → eqx [101, 102, 103, 104, 105, 106, 112, 113] I J → J 101 = va_up (I 101) 30 (nI 0) → J 104 = cpy 156 M (I 104) → J 103 = N → (∀ k, 156 ≤ k → J 102 k = M k) → r = ckF n tn fr to0 w Wt x 0 M → Rl 6 M_M_check 167 [some (.ref 101), some (.int (nI fr)), some (.int (nI to0)), some (.int (nI x)), some (.int (nI w)), some (.int (nI r)), some (.int (nI k)), o7] [] g J K := by
        intro k r o7 J hr hJ h101 h104 h103 h102 hck
        rw [← hck] at kk
        have hb : va_up J 102 (cpy 156 (J 104) (J 102)) 102 = M := by
          rw [va_up_self, h104]
          funext j
          unfold cpy
          by_cases hj : j < 156
          · rw [if_pos hj, if_pos hj]
          · rw [if_neg hj]; exact h102 j (by omega)
        have hb3 : va_up J 102 (cpy 156 (J 104) (J 102)) 103 = N := by rw [va_up_ne _ _ (by decide)]; exact h103
        have kk2 : ∀ J2 : IM, eqx [102, 103] (va_up J 102 (cpy 156 (J 104) (J 102))) J2 → J2 102 = N → J2 103 = M → K (some (.int (ckV x w r))) g J2 := by
          intro J2 hJ2 h2N h2M
          refine kk J2 _ (fun i hi => ?_) ?_ rfl
          · by_cases i2 : i = 102
            · subst i2; rw [h2N, hN]
            · by_cases i3 : i = 103
              · subst i3; rw [h2M, hM]
              · rw [hJ2 i (by simp [i2, i3]), va_up_ne _ _ i2]
                exact hJ i (fun q => hi (by simp at q ⊢; omega))
          · rw [hJ2 101 (by decide), va_up_ne _ _ (by decide)]; exact h101
        unfold ckV at kk2
        repeat' (first
          | refine T_aload_n (pc1 := 168) (pc := 167) k_M_check_167 rfl rfl ?_
          | refine T_aload_nN (pc1 := 168) (pc := 167) k_M_check_167 rfl rfl ?_
          | refine T_iload (pc1 := 170) (pc := 168) k_M_check_168 rfl rfl ?_
          | refine T_iconst (v := (nI 2)) (pc1 := 171) (pc := 170) k_M_check_170 rfl (by decide) ?_
          | refine T_iload_n (pc1 := 172) (pc := 171) k_M_check_171 rfl rfl ?_
          | with_reducible refine T_imulN (pc1 := 173) (pc := 172) k_M_check_172 (by decide) ?_
          | refine T_imul (pc1 := 173) (pc := 172) k_M_check_172 rfl ?_
          | (with_reducible refine T_icmp_neN (tgt := 187) (pc1 := 176) (pc := 173) k_M_check_173 (by decide) (by decide) (by omega) (by omega) (fun hc => ?_) (fun hc => ?_) <;> first | (exfalso; omega) | skip)
          | refine T_icmp_ne_t (tgt := 187) (pc := 173) k_M_check_173 rfl (by decide) ?_
          | refine T_icmp_ne_f (tgt := 187) (pc1 := 176) (pc := 173) k_M_check_173 rfl rfl (by decide) ?_
          | refine T_icmp_ne (tgt := 187) (pc1 := 176) (pc := 173) k_M_check_173 rfl rfl (fun hc => ?_) (fun hc => ?_)
          | refine T_iload (pc1 := 178) (pc := 176) k_M_check_176 rfl rfl ?_
          | refine T_iload (pc1 := 180) (pc := 178) k_M_check_178 rfl rfl ?_
          | (with_reducible refine T_icmp_neN (tgt := 187) (pc1 := 183) (pc := 180) k_M_check_180 (by decide) (by decide) (by omega) (by omega) (fun hc => ?_) (fun hc => ?_) <;> first | (exfalso; omega) | skip)
          | refine T_icmp_ne_t (tgt := 187) (pc := 180) k_M_check_180 rfl (by decide) ?_
          | refine T_icmp_ne_f (tgt := 187) (pc1 := 183) (pc := 180) k_M_check_180 rfl rfl (by decide) ?_
          | refine T_icmp_ne (tgt := 187) (pc1 := 183) (pc := 180) k_M_check_180 rfl rfl (fun hc => ?_) (fun hc => ?_)
          | refine T_iconst (v := (nI 0)) (pc1 := 184) (pc := 183) k_M_check_183 rfl (by decide) ?_
          | refine T_goto (tgt := 191) (pc := 184) k_M_check_184 rfl ?_
          | refine T_iconst (v := (nI 1)) (pc1 := 188) (pc := 187) k_M_check_187 rfl (by decide) ?_
          | refine T_iload (pc1 := 190) (pc := 188) k_M_check_188 rfl rfl ?_
          | with_reducible refine T_iaddN (pc1 := 191) (pc := 190) k_M_check_190 (by decide) ?_
          | refine T_iadd (pc1 := 191) (pc := 190) k_M_check_190 rfl ?_
          | (refine T_cV (As := [_]) (d1 := 2) (pc1 := 194) (pc := 191) k_M_check_191 rfl (by decide) (Nat.le_of_ble_eq_true rfl) rfl o_M_putBack l_M_183 rfl (by first | exact ga G (by decide) rfl | assumption) rfl (c_M_putBack G ?_) <;> try dsimp only [psh])
          | refine T_istore (pc1 := 196) (pc := 194) k_M_check_194 rfl (Nat.le_of_ble_eq_true rfl) ?_
          | refine T_aload_n (pc1 := 197) (pc := 196) k_M_check_196 rfl rfl ?_
          | refine T_aload_nN (pc1 := 197) (pc := 196) k_M_check_196 rfl rfl ?_
          | (refine T_cV (As := []) (d1 := 1) (pc1 := 200) (pc := 197) k_M_check_197 rfl (by decide) (Nat.le_of_ble_eq_true rfl) rfl o_M_swap l_M_313 rfl (by first | exact ga G (by decide) rfl | assumption) rfl (c_M_swap G hb hb3 (fun k hk => (hz k hk).symm) (fun J2 hJ2 h2N h2M => ?_)) <;> try dsimp only [psh])
          | refine T_iload (pc1 := 202) (pc := 200) k_M_check_200 rfl rfl ?_
          | refine T_retI (pc := 202) k_M_check_202 rfl (by first | rfl | decide | assumption) ?_)
        · rw [if_neg (fun q => by omega)] at kk2
          exact kk2 J2 hJ2 h2N h2M
        · rw [if_neg (fun q => by omega)] at kk2
          exact kk2 J2 hJ2 h2N h2M
        · rw [if_pos ⟨by omega, by omega⟩] at kk2
          exact kk2 J2 hJ2 h2N h2M
      have exit : ∀ k r o7 (J : IM), k ≤ x → r < 2 * k → eqx [101, 102, 103, 104, 105, 106, 112, 113] I J → J 101 = va_up (I 101) 30 (nI 0) → J 104 = cpy 156 M (I 104) → J 103 = N → (∀ k, 156 ≤ k → J 102 k = M k) → r = ckF n tn fr to0 w Wt x 0 M → Rl 6 M_M_check 67 [some (.ref 101), some (.int (nI fr)), some (.int (nI to0)), some (.int (nI x)), some (.int (nI w)), some (.int (nI r)), some (.int (nI k)), o7] [] g J K := by
        intro k r o7 J hk hr hJ h101 h104 h103 h102 hck
        repeat' (first
          | refine T_iload (pc1 := 69) (pc := 67) k_M_check_67 rfl rfl ?_
          | refine T_iload_n (pc1 := 70) (pc := 69) k_M_check_69 rfl rfl ?_
          | (with_reducible refine T_icmp_geN (tgt := 167) (pc1 := 73) (pc := 70) k_M_check_70 (by decide) (by decide) (by omega) (by omega) (fun hc => ?_) (fun hc => ?_) <;> first | (exfalso; omega) | skip)
          | refine T_icmp_ge_t (tgt := 167) (pc := 70) k_M_check_70 rfl (by decide) ?_
          | refine T_icmp_ge_f (tgt := 167) (pc1 := 73) (pc := 70) k_M_check_70 rfl rfl (by decide) ?_
          | refine T_icmp_ge (tgt := 167) (pc1 := 73) (pc := 70) k_M_check_70 rfl rfl (fun hc => ?_) (fun hc => ?_)
          | refine T_iload (pc1 := 75) (pc := 73) k_M_check_73 rfl rfl ?_
          | refine T_iconst (v := (nI 2)) (pc1 := 76) (pc := 75) k_M_check_75 rfl (by decide) ?_
          | refine T_iload (pc1 := 78) (pc := 76) k_M_check_76 rfl rfl ?_
          | with_reducible refine T_imulN (pc1 := 79) (pc := 78) k_M_check_78 (by decide) ?_
          | refine T_imul (pc1 := 79) (pc := 78) k_M_check_78 rfl ?_
          | (with_reducible refine T_icmp_neN (tgt := 167) (pc1 := 82) (pc := 79) k_M_check_79 (by decide) (by decide) (by omega) (by omega) (fun hc => ?_) (fun hc => ?_) <;> first | (exfalso; omega) | skip)
          | refine T_icmp_ne_t (tgt := 167) (pc := 79) k_M_check_79 rfl (by decide) ?_
          | refine T_icmp_ne_f (tgt := 167) (pc1 := 82) (pc := 79) k_M_check_79 rfl rfl (by decide) ?_
          | refine T_icmp_ne (tgt := 167) (pc1 := 82) (pc := 79) k_M_check_79 rfl rfl (fun hc => ?_) (fun hc => ?_))
        all_goals exact fin _ _ _ J (by omega) hJ h101 h104 h103 h102 hck
      have loop : ∀ q k o7 (R : Row) (J : IM), k + q = x → okL R n tn → (∀ k, 156 ≤ k → R k = M k) → eqx [101, 102, 103, 104, 105, 106, 112, 113] I J → J 101 = va_up (I 101) 30 (nI 0) → J 104 = cpy 156 M (I 104) → J 103 = N → J 102 = R → ckF n tn fr to0 w Wt q k R = ckF n tn fr to0 w Wt x 0 M → Rl 6 M_M_check 67 [some (.ref 101), some (.int (nI fr)), some (.int (nI to0)), some (.int (nI x)), some (.int (nI w)), some (.int (nI (2 * k))), some (.int (nI k)), o7] [] g J K := by
        intro q
        induction q with
        | zero =>
          intro k o7 R J hk okR hR hJ h101 h104 h103 h102 hck
          have hk : k = x := by omega
          subst hk
          repeat' (first
            | refine T_iload (pc1 := 69) (pc := 67) k_M_check_67 rfl rfl ?_
            | refine T_iload_n (pc1 := 70) (pc := 69) k_M_check_69 rfl rfl ?_
            | (with_reducible refine T_icmp_geN (tgt := 167) (pc1 := 73) (pc := 70) k_M_check_70 (by decide) (by decide) (by omega) (by omega) (fun hc => ?_) (fun hc => ?_) <;> first | (exfalso; omega) | skip)
            | refine T_icmp_ge_t (tgt := 167) (pc := 70) k_M_check_70 rfl (by decide) ?_
            | refine T_icmp_ge_f (tgt := 167) (pc1 := 73) (pc := 70) k_M_check_70 rfl rfl (by decide) ?_
            | refine T_icmp_ge (tgt := 167) (pc1 := 73) (pc := 70) k_M_check_70 rfl rfl (fun hc => ?_) (fun hc => ?_)
            | refine T_iload (pc1 := 75) (pc := 73) k_M_check_73 rfl rfl ?_
            | refine T_iconst (v := (nI 2)) (pc1 := 76) (pc := 75) k_M_check_75 rfl (by decide) ?_
            | refine T_iload (pc1 := 78) (pc := 76) k_M_check_76 rfl rfl ?_
            | with_reducible refine T_imulN (pc1 := 79) (pc := 78) k_M_check_78 (by decide) ?_
            | refine T_imul (pc1 := 79) (pc := 78) k_M_check_78 rfl ?_
            | (with_reducible refine T_icmp_neN (tgt := 167) (pc1 := 82) (pc := 79) k_M_check_79 (by decide) (by decide) (by omega) (by omega) (fun hc => ?_) (fun hc => ?_) <;> first | (exfalso; omega) | skip)
            | refine T_icmp_ne_t (tgt := 167) (pc := 79) k_M_check_79 rfl (by decide) ?_
            | refine T_icmp_ne_f (tgt := 167) (pc1 := 82) (pc := 79) k_M_check_79 rfl rfl (by decide) ?_
            | refine T_icmp_ne (tgt := 167) (pc1 := 82) (pc := 79) k_M_check_79 rfl rfl (fun hc => ?_) (fun hc => ?_))
          all_goals first | exact fin _ _ _ J (by omega) hJ h101 h104 h103 (fun j hj => by rw [h102]; exact hR j hj) hck | (exfalso; omega)
        | succ q ih =>
          intro k o7 R J hk okR hR hJ h101 h104 h103 h102 hck
          obtain ⟨ok3, ok4, ok5⟩ := wkN_ok (fr := fr) (to0 := to0) okR hf ht
          rw [ckF] at hck
          repeat' (first
            | refine T_iload (pc1 := 69) (pc := 67) k_M_check_67 rfl rfl ?_
            | refine T_iload_n (pc1 := 70) (pc := 69) k_M_check_69 rfl rfl ?_
            | (with_reducible refine T_icmp_geN (tgt := 167) (pc1 := 73) (pc := 70) k_M_check_70 (by decide) (by decide) (by omega) (by omega) (fun hc => ?_) (fun hc => ?_) <;> first | (exfalso; omega) | skip)
            | refine T_icmp_ge_t (tgt := 167) (pc := 70) k_M_check_70 rfl (by decide) ?_
            | refine T_icmp_ge_f (tgt := 167) (pc1 := 73) (pc := 70) k_M_check_70 rfl rfl (by decide) ?_
            | refine T_icmp_ge (tgt := 167) (pc1 := 73) (pc := 70) k_M_check_70 rfl rfl (fun hc => ?_) (fun hc => ?_)
            | refine T_iload (pc1 := 75) (pc := 73) k_M_check_73 rfl rfl ?_
            | refine T_iconst (v := (nI 2)) (pc1 := 76) (pc := 75) k_M_check_75 rfl (by decide) ?_
            | refine T_iload (pc1 := 78) (pc := 76) k_M_check_76 rfl rfl ?_
            | with_reducible refine T_imulN (pc1 := 79) (pc := 78) k_M_check_78 (by decide) ?_
            | refine T_imul (pc1 := 79) (pc := 78) k_M_check_78 rfl ?_
            | (with_reducible refine T_icmp_neN (tgt := 167) (pc1 := 82) (pc := 79) k_M_check_79 (by decide) (by decide) (by omega) (by omega) (fun hc => ?_) (fun hc => ?_) <;> first | (exfalso; omega) | skip)
            | refine T_icmp_ne_t (tgt := 167) (pc := 79) k_M_check_79 rfl (by decide) ?_
            | refine T_icmp_ne_f (tgt := 167) (pc1 := 82) (pc := 79) k_M_check_79 rfl rfl (by decide) ?_
            | refine T_icmp_ne (tgt := 167) (pc1 := 82) (pc := 79) k_M_check_79 rfl rfl (fun hc => ?_) (fun hc => ?_)
            | refine T_aload_n (pc1 := 83) (pc := 82) k_M_check_82 rfl rfl ?_
            | refine T_aload_nN (pc1 := 83) (pc := 82) k_M_check_82 rfl rfl ?_
            | refine T_iload_n (pc1 := 84) (pc := 83) k_M_check_83 rfl rfl ?_
            | refine T_iload_n (pc1 := 85) (pc := 84) k_M_check_84 rfl rfl ?_
            | (refine T_cV (As := [_, _]) (d1 := 5) (pc1 := 88) (pc := 85) k_M_check_85 rfl (by decide) (Nat.le_of_ble_eq_true rfl) rfl o_M_walks l_M_174 rfl (by first | exact ga G (by decide) rfl | assumption) rfl (c_M_walks G h102 okR hf ht (fun J2 hJ2 hJ2N => ?_)) <;> try dsimp only [psh]))
          all_goals try (exfalso; omega)
          have hJ2x := eqx_tr hJ (eqx_mono (T := [101, 102, 103, 104, 105, 106, 112, 113]) hJ2 (by decide))
          have b101 := (hJ2 101 (by decide)).trans h101
          have b104 := (hJ2 104 (by decide)).trans h104
          have b103 := (hJ2 103 (by decide)).trans h103
          have b120 : J2 120 = Wt := (hJ2x 120 (by decide)).trans hWt
          have b102 : ∀ j, 156 ≤ j → J2 102 j = M j := fun j hj => by rw [hJ2N, ok4 j hj, hR j hj]
          by_cases p1 : 2 * k < w ∧ Wt (2 * k) = nI (wkM R n tn fr to0)
          · rw [if_pos p1] at hck
            have p1a := p1.1
            have p1b := p1.2
            repeat' (first
              | refine T_istore (pc1 := 90) (pc := 88) k_M_check_88 rfl (Nat.le_of_ble_eq_true rfl) ?_
              | refine T_iload (pc1 := 92) (pc := 90) k_M_check_90 rfl rfl ?_
              | refine T_iload (pc1 := 94) (pc := 92) k_M_check_92 rfl rfl ?_
              | refine T_iload (pc1 := 96) (pc := 94) k_M_check_94 rfl rfl ?_
              | (with_reducible refine T_icmp_geN (tgt := 115) (pc1 := 99) (pc := 96) k_M_check_96 (by decide) (by decide) (by omega) (by omega) (fun hc => ?_) (fun hc => ?_) <;> first | (exfalso; omega) | skip)
              | refine T_icmp_ge_t (tgt := 115) (pc := 96) k_M_check_96 rfl (by decide) ?_
              | refine T_icmp_ge_f (tgt := 115) (pc1 := 99) (pc := 96) k_M_check_96 rfl rfl (by decide) ?_
              | refine T_icmp_ge (tgt := 115) (pc1 := 99) (pc := 96) k_M_check_96 rfl rfl (fun hc => ?_) (fun hc => ?_)
              | refine T_aload_n (pc1 := 100) (pc := 99) k_M_check_99 rfl rfl ?_
              | refine T_aload_nN (pc1 := 100) (pc := 99) k_M_check_99 rfl rfl ?_
              | refine T_getR (pc1 := 103) (pc := 100) k_M_check_100 rfl f_M_79 rfl (by first | exact ga G (by decide) rfl | assumption) (by first | exact gr G (by decide) rfl | assumption) ?_
              | refine T_iload (pc1 := 105) (pc := 103) k_M_check_103 rfl rfl ?_
              | refine T_ialdN (pc1 := 106) (pc := 105) k_M_check_105 rfl (by first | exact ga G (by decide) rfl | assumption) (by omega) (by omega) (by first | assumption | (simp (disch := omega) only [pI_eq, pI_row, pI_col, va_up_self, va_up_ne, ne_eq, not_false_eq_true, b120] <;> rfl) | rfl) ?_
              | refine T_iald (pc1 := 106) (pc := 105) k_M_check_105 rfl (by first | exact ga G (by decide) rfl | assumption) (by assumption) ?_
              | refine T_iload (pc1 := 108) (pc := 106) k_M_check_106 rfl rfl ?_
              | (with_reducible refine T_icmp_neN (tgt := 115) (pc1 := 111) (pc := 108) k_M_check_108 (by decide) (by decide) (by omega) (by omega) (fun hc => ?_) (fun hc => ?_) <;> first | (exfalso; omega) | skip)
              | refine T_icmp_ne_t (tgt := 115) (pc := 108) k_M_check_108 rfl (by decide) ?_
              | refine T_icmp_ne_f (tgt := 115) (pc1 := 111) (pc := 108) k_M_check_108 rfl rfl (by decide) ?_
              | refine T_icmp_ne (tgt := 115) (pc1 := 111) (pc := 108) k_M_check_108 rfl rfl (fun hc => ?_) (fun hc => ?_)
              | refine T_iconst (v := (nI 1)) (pc1 := 112) (pc := 111) k_M_check_111 rfl (by decide) ?_
              | refine T_goto (tgt := 116) (pc := 112) k_M_check_112 rfl ?_
              | refine T_iconst (v := (nI 0)) (pc1 := 116) (pc := 115) k_M_check_115 rfl (by decide) ?_
              | with_reducible refine T_iaddN (pc1 := 117) (pc := 116) k_M_check_116 (by decide) ?_
              | refine T_iadd (pc1 := 117) (pc := 116) k_M_check_116 rfl ?_)
            all_goals try (exfalso; first | omega | contradiction)
            by_cases p2 : 2 * k + 1 < w ∧ Wt (2 * k + 1) = trdS (wkN R n tn fr to0) n
            · rw [if_pos p2] at hck
              have p2a := p2.1
              have p2b := p2.2
              repeat' (first
                | refine T_istore (pc1 := 119) (pc := 117) k_M_check_117 rfl (Nat.le_of_ble_eq_true rfl) ?_
                | refine T_iload (pc1 := 121) (pc := 119) k_M_check_119 rfl rfl ?_
                | refine T_iload (pc1 := 123) (pc := 121) k_M_check_121 rfl rfl ?_
                | refine T_iconst (v := (nI 2)) (pc1 := 124) (pc := 123) k_M_check_123 rfl (by decide) ?_
                | refine T_iload (pc1 := 126) (pc := 124) k_M_check_124 rfl rfl ?_
                | with_reducible refine T_imulN (pc1 := 127) (pc := 126) k_M_check_126 (by decide) ?_
                | refine T_imul (pc1 := 127) (pc := 126) k_M_check_126 rfl ?_
                | refine T_iconst (v := (nI 1)) (pc1 := 128) (pc := 127) k_M_check_127 rfl (by decide) ?_
                | with_reducible refine T_iaddN (pc1 := 129) (pc := 128) k_M_check_128 (by decide) ?_
                | refine T_iadd (pc1 := 129) (pc := 128) k_M_check_128 rfl ?_
                | (with_reducible refine T_icmp_neN (tgt := 157) (pc1 := 132) (pc := 129) k_M_check_129 (by decide) (by decide) (by omega) (by omega) (fun hc => ?_) (fun hc => ?_) <;> first | (exfalso; omega) | skip)
                | refine T_icmp_ne_t (tgt := 157) (pc := 129) k_M_check_129 rfl (by decide) ?_
                | refine T_icmp_ne_f (tgt := 157) (pc1 := 132) (pc := 129) k_M_check_129 rfl rfl (by decide) ?_
                | refine T_icmp_ne (tgt := 157) (pc1 := 132) (pc := 129) k_M_check_129 rfl rfl (fun hc => ?_) (fun hc => ?_)
                | refine T_iload (pc1 := 134) (pc := 132) k_M_check_132 rfl rfl ?_
                | refine T_iload (pc1 := 136) (pc := 134) k_M_check_134 rfl rfl ?_
                | (with_reducible refine T_icmp_geN (tgt := 157) (pc1 := 139) (pc := 136) k_M_check_136 (by decide) (by decide) (by omega) (by omega) (fun hc => ?_) (fun hc => ?_) <;> first | (exfalso; omega) | skip)
                | refine T_icmp_ge_t (tgt := 157) (pc := 136) k_M_check_136 rfl (by decide) ?_
                | refine T_icmp_ge_f (tgt := 157) (pc1 := 139) (pc := 136) k_M_check_136 rfl rfl (by decide) ?_
                | refine T_icmp_ge (tgt := 157) (pc1 := 139) (pc := 136) k_M_check_136 rfl rfl (fun hc => ?_) (fun hc => ?_)
                | refine T_aload_n (pc1 := 140) (pc := 139) k_M_check_139 rfl rfl ?_
                | refine T_aload_nN (pc1 := 140) (pc := 139) k_M_check_139 rfl rfl ?_
                | refine T_getR (pc1 := 143) (pc := 140) k_M_check_140 rfl f_M_79 rfl (by first | exact ga G (by decide) rfl | assumption) (by first | exact gr G (by decide) rfl | assumption) ?_
                | refine T_iload (pc1 := 145) (pc := 143) k_M_check_143 rfl rfl ?_
                | refine T_ialdN (pc1 := 146) (pc := 145) k_M_check_145 rfl (by first | exact ga G (by decide) rfl | assumption) (by omega) (by omega) (by first | assumption | (simp (disch := omega) only [pI_eq, pI_row, pI_col, va_up_self, va_up_ne, ne_eq, not_false_eq_true, b120] <;> rfl) | rfl) ?_
                | refine T_iald (pc1 := 146) (pc := 145) k_M_check_145 rfl (by first | exact ga G (by decide) rfl | assumption) (by assumption) ?_
                | refine T_aload_n (pc1 := 147) (pc := 146) k_M_check_146 rfl rfl ?_
                | refine T_aload_nN (pc1 := 147) (pc := 146) k_M_check_146 rfl rfl ?_
                | (refine T_cV (As := []) (d1 := 2) (pc1 := 150) (pc := 147) k_M_check_147 rfl (by decide) (Nat.le_of_ble_eq_true rfl) rfl o_M_trodden l_M_316 rfl (by first | exact ga G (by decide) rfl | assumption) rfl (c_M_trodden G hJ2N ok3.1 h14 ?_) <;> try dsimp only [psh])
                | (with_reducible refine T_icmp_neN (tgt := 157) (pc1 := 153) (pc := 150) k_M_check_150 (by decide) (by decide) (by omega) (by omega) (fun hc => ?_) (fun hc => ?_) <;> first | (exfalso; omega) | skip)
                | refine T_icmp_ne_t (tgt := 157) (pc := 150) k_M_check_150 rfl (by decide) ?_
                | refine T_icmp_ne_f (tgt := 157) (pc1 := 153) (pc := 150) k_M_check_150 rfl rfl (by decide) ?_
                | refine T_icmp_ne (tgt := 157) (pc1 := 153) (pc := 150) k_M_check_150 rfl rfl (fun hc => ?_) (fun hc => ?_)
                | refine T_iconst (v := (nI 1)) (pc1 := 154) (pc := 153) k_M_check_153 rfl (by decide) ?_
                | refine T_goto (tgt := 158) (pc := 154) k_M_check_154 rfl ?_
                | refine T_iconst (v := (nI 0)) (pc1 := 158) (pc := 157) k_M_check_157 rfl (by decide) ?_
                | with_reducible refine T_iaddN (pc1 := 159) (pc := 158) k_M_check_158 (by decide) ?_
                | refine T_iadd (pc1 := 159) (pc := 158) k_M_check_158 rfl ?_
                | refine T_istore (pc1 := 161) (pc := 159) k_M_check_159 rfl (Nat.le_of_ble_eq_true rfl) ?_
                | refine T_iincN (b := 1) (pc1 := 164) (pc := 161) k_M_check_161 rfl rfl (by decide) ?_
                | refine T_iinc (v := (nI 1)) (pc1 := 164) (pc := 161) k_M_check_161 rfl rfl (by decide) ?_
                | refine T_goto (tgt := 67) (pc := 164) k_M_check_164 rfl ?_)
              all_goals try (exfalso; first | omega | contradiction)
              exact ih (k + 1) _ _ J2 (by omega) ok3 (fun j hj => by rw [ok4 j hj, hR j hj]) hJ2x b101 b104 b103 hJ2N hck
            · rw [if_neg p2] at hck
              repeat' (first
                | refine T_istore (pc1 := 119) (pc := 117) k_M_check_117 rfl (Nat.le_of_ble_eq_true rfl) ?_
                | refine T_iload (pc1 := 121) (pc := 119) k_M_check_119 rfl rfl ?_
                | refine T_iload (pc1 := 123) (pc := 121) k_M_check_121 rfl rfl ?_
                | refine T_iconst (v := (nI 2)) (pc1 := 124) (pc := 123) k_M_check_123 rfl (by decide) ?_
                | refine T_iload (pc1 := 126) (pc := 124) k_M_check_124 rfl rfl ?_
                | with_reducible refine T_imulN (pc1 := 127) (pc := 126) k_M_check_126 (by decide) ?_
                | refine T_imul (pc1 := 127) (pc := 126) k_M_check_126 rfl ?_
                | refine T_iconst (v := (nI 1)) (pc1 := 128) (pc := 127) k_M_check_127 rfl (by decide) ?_
                | with_reducible refine T_iaddN (pc1 := 129) (pc := 128) k_M_check_128 (by decide) ?_
                | refine T_iadd (pc1 := 129) (pc := 128) k_M_check_128 rfl ?_
                | (with_reducible refine T_icmp_neN (tgt := 157) (pc1 := 132) (pc := 129) k_M_check_129 (by decide) (by decide) (by omega) (by omega) (fun hc => ?_) (fun hc => ?_) <;> first | (exfalso; omega) | skip)
                | refine T_icmp_ne_t (tgt := 157) (pc := 129) k_M_check_129 rfl (by decide) ?_
                | refine T_icmp_ne_f (tgt := 157) (pc1 := 132) (pc := 129) k_M_check_129 rfl rfl (by decide) ?_
                | refine T_icmp_ne (tgt := 157) (pc1 := 132) (pc := 129) k_M_check_129 rfl rfl (fun hc => ?_) (fun hc => ?_)
                | refine T_iload (pc1 := 134) (pc := 132) k_M_check_132 rfl rfl ?_
                | refine T_iload (pc1 := 136) (pc := 134) k_M_check_134 rfl rfl ?_
                | (with_reducible refine T_icmp_geN (tgt := 157) (pc1 := 139) (pc := 136) k_M_check_136 (by decide) (by decide) (by omega) (by omega) (fun hc => ?_) (fun hc => ?_) <;> first | (exfalso; omega) | skip)
                | refine T_icmp_ge_t (tgt := 157) (pc := 136) k_M_check_136 rfl (by decide) ?_
                | refine T_icmp_ge_f (tgt := 157) (pc1 := 139) (pc := 136) k_M_check_136 rfl rfl (by decide) ?_
                | refine T_icmp_ge (tgt := 157) (pc1 := 139) (pc := 136) k_M_check_136 rfl rfl (fun hc => ?_) (fun hc => ?_)
                | refine T_aload_n (pc1 := 140) (pc := 139) k_M_check_139 rfl rfl ?_
                | refine T_aload_nN (pc1 := 140) (pc := 139) k_M_check_139 rfl rfl ?_
                | refine T_getR (pc1 := 143) (pc := 140) k_M_check_140 rfl f_M_79 rfl (by first | exact ga G (by decide) rfl | assumption) (by first | exact gr G (by decide) rfl | assumption) ?_
                | refine T_iload (pc1 := 145) (pc := 143) k_M_check_143 rfl rfl ?_
                | refine T_ialdN (pc1 := 146) (pc := 145) k_M_check_145 rfl (by first | exact ga G (by decide) rfl | assumption) (by omega) (by omega) (by first | assumption | (simp (disch := omega) only [pI_eq, pI_row, pI_col, va_up_self, va_up_ne, ne_eq, not_false_eq_true, b120] <;> rfl) | rfl) ?_
                | refine T_iald (pc1 := 146) (pc := 145) k_M_check_145 rfl (by first | exact ga G (by decide) rfl | assumption) (by assumption) ?_
                | refine T_aload_n (pc1 := 147) (pc := 146) k_M_check_146 rfl rfl ?_
                | refine T_aload_nN (pc1 := 147) (pc := 146) k_M_check_146 rfl rfl ?_
                | (refine T_cV (As := []) (d1 := 2) (pc1 := 150) (pc := 147) k_M_check_147 rfl (by decide) (Nat.le_of_ble_eq_true rfl) rfl o_M_trodden l_M_316 rfl (by first | exact ga G (by decide) rfl | assumption) rfl (c_M_trodden G hJ2N ok3.1 h14 ?_) <;> try dsimp only [psh])
                | (with_reducible refine T_icmp_neN (tgt := 157) (pc1 := 153) (pc := 150) k_M_check_150 (by decide) (by decide) (by omega) (by omega) (fun hc => ?_) (fun hc => ?_) <;> first | (exfalso; omega) | skip)
                | refine T_icmp_ne_t (tgt := 157) (pc := 150) k_M_check_150 rfl (by decide) ?_
                | refine T_icmp_ne_f (tgt := 157) (pc1 := 153) (pc := 150) k_M_check_150 rfl rfl (by decide) ?_
                | refine T_icmp_ne (tgt := 157) (pc1 := 153) (pc := 150) k_M_check_150 rfl rfl (fun hc => ?_) (fun hc => ?_)
                | refine T_iconst (v := (nI 1)) (pc1 := 154) (pc := 153) k_M_check_153 rfl (by decide) ?_
                | refine T_goto (tgt := 158) (pc := 154) k_M_check_154 rfl ?_
                | refine T_iconst (v := (nI 0)) (pc1 := 158) (pc := 157) k_M_check_157 rfl (by decide) ?_
                | with_reducible refine T_iaddN (pc1 := 159) (pc := 158) k_M_check_158 (by decide) ?_
                | refine T_iadd (pc1 := 159) (pc := 158) k_M_check_158 rfl ?_
                | refine T_istore (pc1 := 161) (pc := 159) k_M_check_159 rfl (Nat.le_of_ble_eq_true rfl) ?_
                | refine T_iincN (b := 1) (pc1 := 164) (pc := 161) k_M_check_161 rfl rfl (by decide) ?_
                | refine T_iinc (v := (nI 1)) (pc1 := 164) (pc := 161) k_M_check_161 rfl rfl (by decide) ?_
                | refine T_goto (tgt := 67) (pc := 164) k_M_check_164 rfl ?_)
              all_goals first | exact exit _ _ _ J2 (by omega) (by omega) hJ2x b101 b104 b103 b102 hck | (exfalso; omega) | (exfalso; exact p2 ⟨by omega, Decidable.not_not.mp (by assumption)⟩)
          · rw [if_neg p1] at hck
            have nx : ∀ o, Rl 6 M_M_check 117 [some (.ref 101), some (.int (nI fr)), some (.int (nI to0)), some (.int (nI x)), some (.int (nI w)), some (.int (nI (2 * k))), some (.int (nI k)), o] [.int (nI (2 * k))] g J2 K := by
              intro o
              repeat' (first
                | refine T_istore (pc1 := 119) (pc := 117) k_M_check_117 rfl (Nat.le_of_ble_eq_true rfl) ?_
                | refine T_iload (pc1 := 121) (pc := 119) k_M_check_119 rfl rfl ?_
                | refine T_iload (pc1 := 123) (pc := 121) k_M_check_121 rfl rfl ?_
                | refine T_iconst (v := (nI 2)) (pc1 := 124) (pc := 123) k_M_check_123 rfl (by decide) ?_
                | refine T_iload (pc1 := 126) (pc := 124) k_M_check_124 rfl rfl ?_
                | with_reducible refine T_imulN (pc1 := 127) (pc := 126) k_M_check_126 (by decide) ?_
                | refine T_imul (pc1 := 127) (pc := 126) k_M_check_126 rfl ?_
                | refine T_iconst (v := (nI 1)) (pc1 := 128) (pc := 127) k_M_check_127 rfl (by decide) ?_
                | with_reducible refine T_iaddN (pc1 := 129) (pc := 128) k_M_check_128 (by decide) ?_
                | refine T_iadd (pc1 := 129) (pc := 128) k_M_check_128 rfl ?_
                | (with_reducible refine T_icmp_neN (tgt := 157) (pc1 := 132) (pc := 129) k_M_check_129 (by decide) (by decide) (by omega) (by omega) (fun hc => ?_) (fun hc => ?_) <;> first | (exfalso; omega) | skip)
                | refine T_icmp_ne_t (tgt := 157) (pc := 129) k_M_check_129 rfl (by decide) ?_
                | refine T_icmp_ne_f (tgt := 157) (pc1 := 132) (pc := 129) k_M_check_129 rfl rfl (by decide) ?_
                | refine T_icmp_ne (tgt := 157) (pc1 := 132) (pc := 129) k_M_check_129 rfl rfl (fun hc => ?_) (fun hc => ?_)
                | refine T_iload (pc1 := 134) (pc := 132) k_M_check_132 rfl rfl ?_
                | refine T_iload (pc1 := 136) (pc := 134) k_M_check_134 rfl rfl ?_
                | (with_reducible refine T_icmp_geN (tgt := 157) (pc1 := 139) (pc := 136) k_M_check_136 (by decide) (by decide) (by omega) (by omega) (fun hc => ?_) (fun hc => ?_) <;> first | (exfalso; omega) | skip)
                | refine T_icmp_ge_t (tgt := 157) (pc := 136) k_M_check_136 rfl (by decide) ?_
                | refine T_icmp_ge_f (tgt := 157) (pc1 := 139) (pc := 136) k_M_check_136 rfl rfl (by decide) ?_
                | refine T_icmp_ge (tgt := 157) (pc1 := 139) (pc := 136) k_M_check_136 rfl rfl (fun hc => ?_) (fun hc => ?_)
                | refine T_aload_n (pc1 := 140) (pc := 139) k_M_check_139 rfl rfl ?_
                | refine T_aload_nN (pc1 := 140) (pc := 139) k_M_check_139 rfl rfl ?_
                | refine T_getR (pc1 := 143) (pc := 140) k_M_check_140 rfl f_M_79 rfl (by first | exact ga G (by decide) rfl | assumption) (by first | exact gr G (by decide) rfl | assumption) ?_
                | refine T_iload (pc1 := 145) (pc := 143) k_M_check_143 rfl rfl ?_
                | refine T_ialdN (pc1 := 146) (pc := 145) k_M_check_145 rfl (by first | exact ga G (by decide) rfl | assumption) (by omega) (by omega) (by first | assumption | (simp (disch := omega) only [pI_eq, pI_row, pI_col, va_up_self, va_up_ne, ne_eq, not_false_eq_true, b120] <;> rfl) | rfl) ?_
                | refine T_iald (pc1 := 146) (pc := 145) k_M_check_145 rfl (by first | exact ga G (by decide) rfl | assumption) (by assumption) ?_
                | refine T_aload_n (pc1 := 147) (pc := 146) k_M_check_146 rfl rfl ?_
                | refine T_aload_nN (pc1 := 147) (pc := 146) k_M_check_146 rfl rfl ?_
                | (refine T_cV (As := []) (d1 := 2) (pc1 := 150) (pc := 147) k_M_check_147 rfl (by decide) (Nat.le_of_ble_eq_true rfl) rfl o_M_trodden l_M_316 rfl (by first | exact ga G (by decide) rfl | assumption) rfl (c_M_trodden G hJ2N ok3.1 h14 ?_) <;> try dsimp only [psh])
                | (with_reducible refine T_icmp_neN (tgt := 157) (pc1 := 153) (pc := 150) k_M_check_150 (by decide) (by decide) (by omega) (by omega) (fun hc => ?_) (fun hc => ?_) <;> first | (exfalso; omega) | skip)
                | refine T_icmp_ne_t (tgt := 157) (pc := 150) k_M_check_150 rfl (by decide) ?_
                | refine T_icmp_ne_f (tgt := 157) (pc1 := 153) (pc := 150) k_M_check_150 rfl rfl (by decide) ?_
                | refine T_icmp_ne (tgt := 157) (pc1 := 153) (pc := 150) k_M_check_150 rfl rfl (fun hc => ?_) (fun hc => ?_)
                | refine T_iconst (v := (nI 1)) (pc1 := 154) (pc := 153) k_M_check_153 rfl (by decide) ?_
                | refine T_goto (tgt := 158) (pc := 154) k_M_check_154 rfl ?_
                | refine T_iconst (v := (nI 0)) (pc1 := 158) (pc := 157) k_M_check_157 rfl (by decide) ?_
                | with_reducible refine T_iaddN (pc1 := 159) (pc := 158) k_M_check_158 (by decide) ?_
                | refine T_iadd (pc1 := 159) (pc := 158) k_M_check_158 rfl ?_
                | refine T_istore (pc1 := 161) (pc := 159) k_M_check_159 rfl (Nat.le_of_ble_eq_true rfl) ?_
                | refine T_iincN (b := 1) (pc1 := 164) (pc := 161) k_M_check_161 rfl rfl (by decide) ?_
                | refine T_iinc (v := (nI 1)) (pc1 := 164) (pc := 161) k_M_check_161 rfl rfl (by decide) ?_
                | refine T_goto (tgt := 67) (pc := 164) k_M_check_164 rfl ?_)
              all_goals first | exact exit _ _ _ J2 (by omega) (by omega) hJ2x b101 b104 b103 b102 hck | (exfalso; omega)
            repeat' (first
              | refine T_istore (pc1 := 90) (pc := 88) k_M_check_88 rfl (Nat.le_of_ble_eq_true rfl) ?_
              | refine T_iload (pc1 := 92) (pc := 90) k_M_check_90 rfl rfl ?_
              | refine T_iload (pc1 := 94) (pc := 92) k_M_check_92 rfl rfl ?_
              | refine T_iload (pc1 := 96) (pc := 94) k_M_check_94 rfl rfl ?_
              | (with_reducible refine T_icmp_geN (tgt := 115) (pc1 := 99) (pc := 96) k_M_check_96 (by decide) (by decide) (by omega) (by omega) (fun hc => ?_) (fun hc => ?_) <;> first | (exfalso; omega) | skip)
              | refine T_icmp_ge_t (tgt := 115) (pc := 96) k_M_check_96 rfl (by decide) ?_
              | refine T_icmp_ge_f (tgt := 115) (pc1 := 99) (pc := 96) k_M_check_96 rfl rfl (by decide) ?_
              | refine T_icmp_ge (tgt := 115) (pc1 := 99) (pc := 96) k_M_check_96 rfl rfl (fun hc => ?_) (fun hc => ?_)
              | refine T_aload_n (pc1 := 100) (pc := 99) k_M_check_99 rfl rfl ?_
              | refine T_aload_nN (pc1 := 100) (pc := 99) k_M_check_99 rfl rfl ?_
              | refine T_getR (pc1 := 103) (pc := 100) k_M_check_100 rfl f_M_79 rfl (by first | exact ga G (by decide) rfl | assumption) (by first | exact gr G (by decide) rfl | assumption) ?_
              | refine T_iload (pc1 := 105) (pc := 103) k_M_check_103 rfl rfl ?_
              | refine T_ialdN (pc1 := 106) (pc := 105) k_M_check_105 rfl (by first | exact ga G (by decide) rfl | assumption) (by omega) (by omega) (by first | assumption | (simp (disch := omega) only [pI_eq, pI_row, pI_col, va_up_self, va_up_ne, ne_eq, not_false_eq_true, b120] <;> rfl) | rfl) ?_
              | refine T_iald (pc1 := 106) (pc := 105) k_M_check_105 rfl (by first | exact ga G (by decide) rfl | assumption) (by assumption) ?_
              | refine T_iload (pc1 := 108) (pc := 106) k_M_check_106 rfl rfl ?_
              | (with_reducible refine T_icmp_neN (tgt := 115) (pc1 := 111) (pc := 108) k_M_check_108 (by decide) (by decide) (by omega) (by omega) (fun hc => ?_) (fun hc => ?_) <;> first | (exfalso; omega) | skip)
              | refine T_icmp_ne_t (tgt := 115) (pc := 108) k_M_check_108 rfl (by decide) ?_
              | refine T_icmp_ne_f (tgt := 115) (pc1 := 111) (pc := 108) k_M_check_108 rfl rfl (by decide) ?_
              | refine T_icmp_ne (tgt := 115) (pc1 := 111) (pc := 108) k_M_check_108 rfl rfl (fun hc => ?_) (fun hc => ?_)
              | refine T_iconst (v := (nI 1)) (pc1 := 112) (pc := 111) k_M_check_111 rfl (by decide) ?_
              | refine T_goto (tgt := 116) (pc := 112) k_M_check_112 rfl ?_
              | refine T_iconst (v := (nI 0)) (pc1 := 116) (pc := 115) k_M_check_115 rfl (by decide) ?_
              | with_reducible refine T_iaddN (pc1 := 117) (pc := 116) k_M_check_116 (by decide) ?_
              | refine T_iadd (pc1 := 117) (pc := 116) k_M_check_116 rfl ?_)
            all_goals first | exact nx _ | (exfalso; exact p1 ⟨by omega, Decidable.not_not.mp (by assumption)⟩)
      repeat' (first
        | refine T_aload_n (pc1 := 1) (pc := 0) k_M_check_0 rfl rfl ?_
        | refine T_aload_nN (pc1 := 1) (pc := 0) k_M_check_0 rfl rfl ?_
        | refine T_getV (pc1 := 4) (pc := 1) k_M_check_1 rfl f_M_307 rfl (by first | exact ga G (by decide) rfl | assumption) (by first | assumption | (simp (disch := omega) only [pI_eq, pI_row, pI_col, va_up_self, va_up_ne, ne_eq, not_false_eq_true] <;> rfl) | rfl) ?_
        | refine T_istore (pc1 := 6) (pc := 4) k_M_check_4 rfl (Nat.le_of_ble_eq_true rfl) ?_
        | refine T_aload_n (pc1 := 7) (pc := 6) k_M_check_6 rfl rfl ?_
        | refine T_aload_nN (pc1 := 7) (pc := 6) k_M_check_6 rfl rfl ?_
        | refine T_iconst (v := (nI 0)) (pc1 := 8) (pc := 7) k_M_check_7 rfl (by decide) ?_
        | refine T_putI (pc1 := 11) (pc := 8) k_M_check_8 rfl f_M_307 rfl (by first | exact ga G (by decide) rfl | assumption) (by first | rfl | decide | assumption) (by first | rfl | decide | assumption) ?_
        | refine T_iload_n (pc1 := 12) (pc := 11) k_M_check_11 rfl rfl ?_
        | refine T_iload_n (pc1 := 13) (pc := 12) k_M_check_12 rfl rfl ?_
        | (refine T_cS (As := [_, _]) (d1 := 3) (pc1 := 16) (pc := 13) k_M_check_13 rfl (by decide) (Nat.le_of_ble_eq_true rfl) rfl o_M_areSpots l_M_107 rfl (c_M_areSpots (fun hw => ?_) (fun hw => ?_)) <;> try dsimp only [psh])
        | (with_reducible refine T_if_eqN (tgt := 29) (pc1 := 19) (pc := 16) k_M_check_16 (by decide) (by decide) (by omega) (fun hc => ?_) (fun hc => ?_) <;> first | (exfalso; omega) | skip)
        | refine T_if_eq_t (tgt := 29) (pc := 16) k_M_check_16 rfl (by decide) ?_
        | refine T_if_eq_f (tgt := 29) (pc1 := 19) (pc := 16) k_M_check_16 rfl rfl (by decide) ?_
        | refine T_if_eq (tgt := 29) (pc1 := 19) (pc := 16) k_M_check_16 rfl rfl (fun hc => ?_) (fun hc => ?_)
        | refine T_iload_n (pc1 := 20) (pc := 19) k_M_check_19 rfl rfl ?_
        | refine T_iconst (v := (nI 1)) (pc1 := 21) (pc := 20) k_M_check_20 rfl (by decide) ?_
        | refine T_bipush (v := (nI 30)) (pc1 := 23) (pc := 21) k_M_check_21 rfl (by decide) ?_
        | (refine T_cS (As := [_, _, _]) (d1 := 1) (pc1 := 26) (pc := 23) k_M_check_23 rfl (by decide) (Nat.le_of_ble_eq_true rfl) rfl o_M_within l_M_95 rfl (c_M_within (fun hw => ?_) (fun hw => ?_)) <;> try dsimp only [psh])
        | (with_reducible refine T_if_neN (tgt := 32) (pc1 := 29) (pc := 26) k_M_check_26 (by decide) (by decide) (by omega) (fun hc => ?_) (fun hc => ?_) <;> first | (exfalso; omega) | skip)
        | refine T_if_ne_t (tgt := 32) (pc := 26) k_M_check_26 rfl (by decide) ?_
        | refine T_if_ne_f (tgt := 32) (pc1 := 29) (pc := 26) k_M_check_26 rfl rfl (by decide) ?_
        | refine T_if_ne (tgt := 32) (pc1 := 29) (pc := 26) k_M_check_26 rfl rfl (fun hc => ?_) (fun hc => ?_)
        | refine T_ldc (v := (-1000000001)) (pc1 := 31) (pc := 29) k_M_check_29 rfl c_M_111 ?_
        | refine T_retI (pc := 31) k_M_check_31 rfl (by first | rfl | decide | assumption) ?_
        | refine T_aload_n (pc1 := 33) (pc := 32) k_M_check_32 rfl rfl ?_
        | refine T_aload_nN (pc1 := 33) (pc := 32) k_M_check_32 rfl rfl ?_
        | refine T_getV (pc1 := 36) (pc := 33) k_M_check_33 rfl f_M_310 rfl (by first | exact ga G (by decide) rfl | assumption) (by first | assumption | (simp (disch := omega) only [pI_eq, pI_row, pI_col, va_up_self, va_up_ne, ne_eq, not_false_eq_true] <;> rfl) | rfl) ?_
        | (with_reducible refine T_if_neN (tgt := 43) (pc1 := 39) (pc := 36) k_M_check_36 (by decide) (by decide) (by omega) (fun hc => ?_) (fun hc => ?_) <;> first | (exfalso; omega) | skip)
        | refine T_if_ne_t (tgt := 43) (pc := 36) k_M_check_36 rfl (by decide) ?_
        | refine T_if_ne_f (tgt := 43) (pc1 := 39) (pc := 36) k_M_check_36 rfl rfl (by decide) ?_
        | refine T_if_ne (tgt := 43) (pc1 := 39) (pc := 36) k_M_check_36 rfl rfl (fun hc => ?_) (fun hc => ?_)
        | refine T_ldcw (v := (-1000000002)) (pc1 := 42) (pc := 39) k_M_check_39 rfl c_M_306 ?_
        | refine T_retI (pc := 42) k_M_check_42 rfl (by first | rfl | decide | assumption) ?_
        | refine T_aload_n (pc1 := 44) (pc := 43) k_M_check_43 rfl rfl ?_
        | refine T_aload_nN (pc1 := 44) (pc := 43) k_M_check_43 rfl rfl ?_
        | (refine T_cV (As := []) (d1 := 1) (pc1 := 47) (pc := 44) k_M_check_44 rfl (by decide) (Nat.le_of_ble_eq_true rfl) rfl o_M_swap l_M_313 rfl (by first | exact ga G (by decide) rfl | assumption) rfl (c_M_swap (N := N) (M := M) G (by rw [pI_rw (by decide)]; exact hN) (by rw [pI_rw (by decide)]; exact hM) hz (fun J hJ hJ2 hJ3 => ?_)) <;> try dsimp only [psh])
        | refine T_aload_n (pc1 := 48) (pc := 47) k_M_check_47 rfl rfl ?_
        | refine T_aload_nN (pc1 := 48) (pc := 47) k_M_check_47 rfl rfl ?_
        | refine T_getR (pc1 := 51) (pc := 48) k_M_check_48 rfl f_M_9 rfl (by first | exact ga G (by decide) rfl | assumption) (by first | exact gr G (by decide) rfl | assumption) ?_
        | refine T_aload_n (pc1 := 52) (pc := 51) k_M_check_51 rfl rfl ?_
        | refine T_aload_nN (pc1 := 52) (pc := 51) k_M_check_51 rfl rfl ?_
        | refine T_getR (pc1 := 55) (pc := 52) k_M_check_52 rfl f_M_16 rfl (by first | exact ga G (by decide) rfl | assumption) (by first | exact gr G (by decide) rfl | assumption) ?_
        | refine T_sipush (v := (nI 156)) (pc1 := 58) (pc := 55) k_M_check_55 rfl (by decide) ?_
        | (refine T_cS (As := [_, _, _]) (d1 := 1) (pc1 := 61) (pc := 58) k_M_check_58 rfl (by decide) (Nat.le_of_ble_eq_true rfl) rfl o_M_copyRow l_M_91 rfl (c_M_copyRow (ga G (by decide) rfl) (ga G (by decide) rfl) (by omega) (by omega) (by omega) (by omega) (by decide) ?_) <;> try dsimp only [psh])
        | refine T_iconst (v := (nI 0)) (pc1 := 62) (pc := 61) k_M_check_61 rfl (by decide) ?_
        | refine T_istore (pc1 := 64) (pc := 62) k_M_check_62 rfl (Nat.le_of_ble_eq_true rfl) ?_
        | refine T_iconst (v := (nI 0)) (pc1 := 65) (pc := 64) k_M_check_64 rfl (by decide) ?_
        | refine T_istore (pc1 := 67) (pc := 65) k_M_check_65 rfl (Nat.le_of_ble_eq_true rfl) ?_)
      all_goals try (exfalso; first | exact hw c1 | contradiction | (apply hw; constructor <;> omega))
      refine loop x 0 _ M _ (by omega) ok (fun _ _ => rfl) (eqx_up (eqx_tr (eqx_pI eqx_rf _ (by decide)) (eqx_mono hJ (by decide))) _ (by decide)) ?_ ?_ ?_ ?_ rfl
      · rw [va_up_ne _ _ (by decide), hJ 101 (by decide)]; exact y0
      · rw [va_up_self, hJ2, hJ 104 (by decide), pI_rw (by decide)]
      · rw [va_up_ne _ _ (by decide)]; exact hJ3
      · rw [va_up_ne _ _ (by decide)]; exact hJ2
  · rw [checkA, if_neg hok] at kk
    repeat' (first
      | refine T_aload_n (pc1 := 1) (pc := 0) k_M_check_0 rfl rfl ?_
      | refine T_aload_nN (pc1 := 1) (pc := 0) k_M_check_0 rfl rfl ?_
      | refine T_getV (pc1 := 4) (pc := 1) k_M_check_1 rfl f_M_307 rfl (by first | exact ga G (by decide) rfl | assumption) (by first | assumption | (simp (disch := omega) only [pI_eq, pI_row, pI_col, va_up_self, va_up_ne, ne_eq, not_false_eq_true] <;> rfl) | rfl) ?_
      | refine T_istore (pc1 := 6) (pc := 4) k_M_check_4 rfl (Nat.le_of_ble_eq_true rfl) ?_
      | refine T_aload_n (pc1 := 7) (pc := 6) k_M_check_6 rfl rfl ?_
      | refine T_aload_nN (pc1 := 7) (pc := 6) k_M_check_6 rfl rfl ?_
      | refine T_iconst (v := (nI 0)) (pc1 := 8) (pc := 7) k_M_check_7 rfl (by decide) ?_
      | refine T_putI (pc1 := 11) (pc := 8) k_M_check_8 rfl f_M_307 rfl (by first | exact ga G (by decide) rfl | assumption) (by first | rfl | decide | assumption) (by first | rfl | decide | assumption) ?_
      | refine T_iload_n (pc1 := 12) (pc := 11) k_M_check_11 rfl rfl ?_
      | refine T_iload_n (pc1 := 13) (pc := 12) k_M_check_12 rfl rfl ?_
      | (refine T_cS (As := [_, _]) (d1 := 3) (pc1 := 16) (pc := 13) k_M_check_13 rfl (by decide) (Nat.le_of_ble_eq_true rfl) rfl o_M_areSpots l_M_107 rfl (c_M_areSpots (fun hw => ?_) (fun hw => ?_)) <;> try dsimp only [psh])
      | (with_reducible refine T_if_eqN (tgt := 29) (pc1 := 19) (pc := 16) k_M_check_16 (by decide) (by decide) (by omega) (fun hc => ?_) (fun hc => ?_) <;> first | (exfalso; omega) | skip)
      | refine T_if_eq_t (tgt := 29) (pc := 16) k_M_check_16 rfl (by decide) ?_
      | refine T_if_eq_f (tgt := 29) (pc1 := 19) (pc := 16) k_M_check_16 rfl rfl (by decide) ?_
      | refine T_if_eq (tgt := 29) (pc1 := 19) (pc := 16) k_M_check_16 rfl rfl (fun hc => ?_) (fun hc => ?_)
      | refine T_iload_n (pc1 := 20) (pc := 19) k_M_check_19 rfl rfl ?_
      | refine T_iconst (v := (nI 1)) (pc1 := 21) (pc := 20) k_M_check_20 rfl (by decide) ?_
      | refine T_bipush (v := (nI 30)) (pc1 := 23) (pc := 21) k_M_check_21 rfl (by decide) ?_
      | (refine T_cS (As := [_, _, _]) (d1 := 1) (pc1 := 26) (pc := 23) k_M_check_23 rfl (by decide) (Nat.le_of_ble_eq_true rfl) rfl o_M_within l_M_95 rfl (c_M_within (fun hw => ?_) (fun hw => ?_)) <;> try dsimp only [psh])
      | (with_reducible refine T_if_neN (tgt := 32) (pc1 := 29) (pc := 26) k_M_check_26 (by decide) (by decide) (by omega) (fun hc => ?_) (fun hc => ?_) <;> first | (exfalso; omega) | skip)
      | refine T_if_ne_t (tgt := 32) (pc := 26) k_M_check_26 rfl (by decide) ?_
      | refine T_if_ne_f (tgt := 32) (pc1 := 29) (pc := 26) k_M_check_26 rfl rfl (by decide) ?_
      | refine T_if_ne (tgt := 32) (pc1 := 29) (pc := 26) k_M_check_26 rfl rfl (fun hc => ?_) (fun hc => ?_)
      | refine T_ldc (v := (-1000000001)) (pc1 := 31) (pc := 29) k_M_check_29 rfl c_M_111 ?_
      | refine T_retI (pc := 31) k_M_check_31 rfl (by first | rfl | decide | assumption) ?_)
    all_goals first | exact kk _ _ x0 y0 rfl | (exfalso; exact hok ⟨by assumption, by constructor <;> omega⟩)
end M20
