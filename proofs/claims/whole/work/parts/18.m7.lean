/-! The model: least ways. -/
section M7
variable {g : Geo} {I : IM} {K : Option Value → Geo → IM → Prop}
theorem rnd_bd {e : Nat → Nat × Nat} {c : Nf} {n goal r : Nat} (he : okE e n) {k : Nat} (hk : k ≤ n) (v : Nat) : rnd e c (rnds e c n (ini goal) r) k v ≤ 1000000 := by
  obtain ⟨d, hd⟩ := isD_ex e c n goal
  exact (rnd_gd he hd (rnds_gd he hd (ini_gd hd) r).1 k hk).1.2.1 v
set_option maxHeartbeats 4000000 in
theorem c_M_findFar {N : Row} {n tn goal : Nat} {c : Nf} (G : GeoOK g) (hN : I 102 = N) (ok : okL N n tn) (hg : goal < 8) (hC : ∀ b, b < n → I 105 b = nI (c b)) (hcb : ∀ b, b < n → c b ≤ 1998) (kk : ∀ J, eqx [106] I J → (∀ v, v < 8 → J 106 v = nI (dst (ed N) c n goal v)) → K none g J) : Cl 2 M_M_findFar [.ref 101, .int (nI goal)] g I K := by
  show Rl 2 M_M_findFar 0 [some (.ref 101), some (.int (nI goal)), none, none, none, none] [] g I K
  obtain ⟨h5, h14, -⟩ := id ok
  have he := okL_E ok
  have inner : ∀ q b r o4 o5 (J : IM), b + q = n → eqx [106] I J → (∀ v, v < 8 → J 106 v = nI (rnd (ed N) c (rnds (ed N) c n (ini goal) r) b v)) →
      (∀ o4 o5 (J : IM), eqx [106] I J → (∀ v, v < 8 → J 106 v = nI (rnds (ed N) c n (ini goal) (r + 1) v)) → Rl 2 M_M_findFar 144 [some (.ref 101), some (.int (nI goal)), some (.int (nI r)), some (.int (nI n)), o4, o5] [] g J K) →
      Rl 2 M_M_findFar 41 [some (.ref 101), some (.int (nI goal)), some (.int (nI r)), some (.int (nI b)), o4, o5] [] g J K := by
    intro q
    induction q with
    | zero =>
      intro b r o4 o5 J hb hJ hv kx
      have hb : b = n := by omega
      subst hb
      have hJN : J 102 = N := (hJ 102 (by decide)).trans hN
      repeat' (first
        | refine T_iconst (v := (nI 0)) (pc1 := 1) (pc := 0) k_M_findFar_0 rfl (by decide) ?_
        | refine T_istore_n (pc1 := 2) (pc := 1) k_M_findFar_1 rfl (Nat.le_of_ble_eq_true rfl) ?_
        | refine T_iload_n (pc1 := 3) (pc := 2) k_M_findFar_2 rfl rfl ?_
        | refine T_bipush (v := (nI 8)) (pc1 := 5) (pc := 3) k_M_findFar_3 rfl (by decide) ?_
        | (with_reducible refine T_icmp_geN (tgt := 31) (pc1 := 8) (pc := 5) k_M_findFar_5 (by decide) (by decide) (by omega) (by omega) (fun hc => ?_) (fun hc => ?_) <;> first | (exfalso; omega) | skip)
        | refine T_icmp_ge_t (tgt := 31) (pc := 5) k_M_findFar_5 rfl (by decide) ?_
        | refine T_icmp_ge_f (tgt := 31) (pc1 := 8) (pc := 5) k_M_findFar_5 rfl rfl (by decide) ?_
        | refine T_icmp_ge (tgt := 31) (pc1 := 8) (pc := 5) k_M_findFar_5 rfl rfl (fun hc => ?_) (fun hc => ?_)
        | refine T_aload_n (pc1 := 9) (pc := 8) k_M_findFar_8 rfl rfl ?_
        | refine T_aload_nN (pc1 := 9) (pc := 8) k_M_findFar_8 rfl rfl ?_
        | refine T_getR (pc1 := 12) (pc := 9) k_M_findFar_9 rfl f_M_22 rfl (by first | exact ga G (by decide) rfl | assumption) (by first | exact gr G (by decide) rfl | assumption) ?_
        | refine T_iload_n (pc1 := 13) (pc := 12) k_M_findFar_12 rfl rfl ?_
        | refine T_iload_n (pc1 := 14) (pc := 13) k_M_findFar_13 rfl rfl ?_
        | refine T_iload_n (pc1 := 15) (pc := 14) k_M_findFar_14 rfl rfl ?_
        | (with_reducible refine T_icmp_neN (tgt := 22) (pc1 := 18) (pc := 15) k_M_findFar_15 (by decide) (by decide) (by omega) (by omega) (fun hc => ?_) (fun hc => ?_) <;> first | (exfalso; omega) | skip)
        | refine T_icmp_ne_t (tgt := 22) (pc := 15) k_M_findFar_15 rfl (by decide) ?_
        | refine T_icmp_ne_f (tgt := 22) (pc1 := 18) (pc := 15) k_M_findFar_15 rfl rfl (by decide) ?_
        | refine T_icmp_ne (tgt := 22) (pc1 := 18) (pc := 15) k_M_findFar_15 rfl rfl (fun hc => ?_) (fun hc => ?_)
        | refine T_iconst (v := (nI 0)) (pc1 := 19) (pc := 18) k_M_findFar_18 rfl (by decide) ?_
        | refine T_goto (tgt := 24) (pc := 19) k_M_findFar_19 rfl ?_
        | refine T_ldc (v := (nI 1000000)) (pc1 := 24) (pc := 22) k_M_findFar_22 rfl c_M_163 ?_
        | refine T_iastN (pc1 := 25) (pc := 24) k_M_findFar_24 rfl (by first | exact ga G (by decide) rfl | assumption) (by omega) (by omega) ?_
        | refine T_iincN (b := 1) (pc1 := 28) (pc := 25) k_M_findFar_25 rfl rfl (by decide) ?_
        | refine T_iinc (v := (nI 1)) (pc1 := 28) (pc := 25) k_M_findFar_25 rfl rfl (by decide) ?_
        | refine T_goto (tgt := 2) (pc := 28) k_M_findFar_28 rfl ?_
        | refine T_iconst (v := (nI 0)) (pc1 := 32) (pc := 31) k_M_findFar_31 rfl (by decide) ?_
        | refine T_istore_n (pc1 := 33) (pc := 32) k_M_findFar_32 rfl (Nat.le_of_ble_eq_true rfl) ?_
        | refine T_iload_n (pc1 := 34) (pc := 33) k_M_findFar_33 rfl rfl ?_
        | refine T_bipush (v := (nI 8)) (pc1 := 36) (pc := 34) k_M_findFar_34 rfl (by decide) ?_
        | (with_reducible refine T_icmp_geN (tgt := 150) (pc1 := 39) (pc := 36) k_M_findFar_36 (by decide) (by decide) (by omega) (by omega) (fun hc => ?_) (fun hc => ?_) <;> first | (exfalso; omega) | skip)
        | refine T_icmp_ge_t (tgt := 150) (pc := 36) k_M_findFar_36 rfl (by decide) ?_
        | refine T_icmp_ge_f (tgt := 150) (pc1 := 39) (pc := 36) k_M_findFar_36 rfl rfl (by decide) ?_
        | refine T_icmp_ge (tgt := 150) (pc1 := 39) (pc := 36) k_M_findFar_36 rfl rfl (fun hc => ?_) (fun hc => ?_)
        | refine T_iconst (v := (nI 0)) (pc1 := 40) (pc := 39) k_M_findFar_39 rfl (by decide) ?_
        | refine T_istore_n (pc1 := 41) (pc := 40) k_M_findFar_40 rfl (Nat.le_of_ble_eq_true rfl) ?_
        | refine T_iload_n (pc1 := 42) (pc := 41) k_M_findFar_41 rfl rfl ?_
        | refine T_aload_n (pc1 := 43) (pc := 42) k_M_findFar_42 rfl rfl ?_
        | refine T_aload_nN (pc1 := 43) (pc := 42) k_M_findFar_42 rfl rfl ?_
        | refine T_getR (pc1 := 46) (pc := 43) k_M_findFar_43 rfl f_M_9 rfl (by first | exact ga G (by decide) rfl | assumption) (by first | exact gr G (by decide) rfl | assumption) ?_
        | refine T_iconst (v := (nI 5)) (pc1 := 47) (pc := 46) k_M_findFar_46 rfl (by decide) ?_
        | refine T_ialdN (pc1 := 48) (pc := 47) k_M_findFar_47 rfl (by first | exact ga G (by decide) rfl | assumption) (by omega) (by omega) (by first | assumption | (simp (disch := omega) only [pI_eq, pI_row, pI_col, va_up_self, va_up_ne, ne_eq, not_false_eq_true, hJN, h5] <;> rfl) | rfl) ?_
        | refine T_iald (pc1 := 48) (pc := 47) k_M_findFar_47 rfl (by first | exact ga G (by decide) rfl | assumption) (by assumption) ?_
        | (with_reducible refine T_icmp_geN (tgt := 144) (pc1 := 51) (pc := 48) k_M_findFar_48 (by decide) (by decide) (by omega) (by omega) (fun hc => ?_) (fun hc => ?_) <;> first | (exfalso; omega) | skip)
        | refine T_icmp_ge_t (tgt := 144) (pc := 48) k_M_findFar_48 rfl (by decide) ?_
        | refine T_icmp_ge_f (tgt := 144) (pc1 := 51) (pc := 48) k_M_findFar_48 rfl rfl (by decide) ?_
        | refine T_icmp_ge (tgt := 144) (pc1 := 51) (pc := 48) k_M_findFar_48 rfl rfl (fun hc => ?_) (fun hc => ?_)
        | refine T_aload_n (pc1 := 52) (pc := 51) k_M_findFar_51 rfl rfl ?_
        | refine T_aload_nN (pc1 := 52) (pc := 51) k_M_findFar_51 rfl rfl ?_
        | refine T_iload_n (pc1 := 53) (pc := 52) k_M_findFar_52 rfl rfl ?_
        | refine T_iconst (v := (nI 1)) (pc1 := 54) (pc := 53) k_M_findFar_53 rfl (by decide) ?_
        | (refine T_cV (As := [_, _]) (d1 := 1) (pc1 := 57) (pc := 54) k_M_findFar_54 rfl (by decide) (Nat.le_of_ble_eq_true rfl) rfl o_M_bitIs l_M_124 rfl (by first | exact ga G (by decide) rfl | assumption) rfl (c_M_bitN G (by assumption) (by omega) (by omega) (by first | assumption | rfl) ?_) <;> try dsimp only [psh])
        | refine T_istore (pc1 := 59) (pc := 57) k_M_findFar_57 rfl (Nat.le_of_ble_eq_true rfl) ?_
        | refine T_aload_n (pc1 := 60) (pc := 59) k_M_findFar_59 rfl rfl ?_
        | refine T_aload_nN (pc1 := 60) (pc := 59) k_M_findFar_59 rfl rfl ?_
        | refine T_iload_n (pc1 := 61) (pc := 60) k_M_findFar_60 rfl rfl ?_
        | refine T_iconst (v := (nI 2)) (pc1 := 62) (pc := 61) k_M_findFar_61 rfl (by decide) ?_
        | (refine T_cV (As := [_, _]) (d1 := 1) (pc1 := 65) (pc := 62) k_M_findFar_62 rfl (by decide) (Nat.le_of_ble_eq_true rfl) rfl o_M_bitIs l_M_124 rfl (by first | exact ga G (by decide) rfl | assumption) rfl (c_M_bitN G (by assumption) (by omega) (by omega) (by first | assumption | rfl) ?_) <;> try dsimp only [psh])
        | refine T_istore (pc1 := 67) (pc := 65) k_M_findFar_65 rfl (Nat.le_of_ble_eq_true rfl) ?_
        | refine T_aload_n (pc1 := 68) (pc := 67) k_M_findFar_67 rfl rfl ?_
        | refine T_aload_nN (pc1 := 68) (pc := 67) k_M_findFar_67 rfl rfl ?_
        | refine T_getR (pc1 := 71) (pc := 68) k_M_findFar_68 rfl f_M_19 rfl (by first | exact ga G (by decide) rfl | assumption) (by first | exact gr G (by decide) rfl | assumption) ?_
        | refine T_iload_n (pc1 := 72) (pc := 71) k_M_findFar_71 rfl rfl ?_
        | refine T_ialdN (pc1 := 73) (pc := 72) k_M_findFar_72 rfl (by first | exact ga G (by decide) rfl | assumption) (by omega) (by omega) (by first | assumption | (simp (disch := omega) only [pI_eq, pI_row, pI_col, va_up_self, va_up_ne, ne_eq, not_false_eq_true, hJN, h5] <;> rfl) | rfl) ?_
        | refine T_iald (pc1 := 73) (pc := 72) k_M_findFar_72 rfl (by first | exact ga G (by decide) rfl | assumption) (by assumption) ?_
        | (with_reducible refine T_if_leN (tgt := 138) (pc1 := 76) (pc := 73) k_M_findFar_73 (by decide) (by decide) (by omega) (fun hc => ?_) (fun hc => ?_) <;> first | (exfalso; omega) | skip)
        | refine T_if_le_t (tgt := 138) (pc := 73) k_M_findFar_73 rfl (by decide) ?_
        | refine T_if_le_f (tgt := 138) (pc1 := 76) (pc := 73) k_M_findFar_73 rfl rfl (by decide) ?_
        | refine T_if_le (tgt := 138) (pc1 := 76) (pc := 73) k_M_findFar_73 rfl rfl (fun hc => ?_) (fun hc => ?_)
        | refine T_aload_n (pc1 := 77) (pc := 76) k_M_findFar_76 rfl rfl ?_
        | refine T_aload_nN (pc1 := 77) (pc := 76) k_M_findFar_76 rfl rfl ?_
        | refine T_getR (pc1 := 80) (pc := 77) k_M_findFar_77 rfl f_M_22 rfl (by first | exact ga G (by decide) rfl | assumption) (by first | exact gr G (by decide) rfl | assumption) ?_
        | refine T_iload (pc1 := 82) (pc := 80) k_M_findFar_80 rfl rfl ?_
        | refine T_aload_n (pc1 := 83) (pc := 82) k_M_findFar_82 rfl rfl ?_
        | refine T_aload_nN (pc1 := 83) (pc := 82) k_M_findFar_82 rfl rfl ?_
        | refine T_getR (pc1 := 86) (pc := 83) k_M_findFar_83 rfl f_M_22 rfl (by first | exact ga G (by decide) rfl | assumption) (by first | exact gr G (by decide) rfl | assumption) ?_
        | refine T_iload (pc1 := 88) (pc := 86) k_M_findFar_86 rfl rfl ?_
        | refine T_ialdN (pc1 := 89) (pc := 88) k_M_findFar_88 rfl (by first | exact ga G (by decide) rfl | assumption) (by omega) (by omega) (by first | assumption | (simp (disch := omega) only [pI_eq, pI_row, pI_col, va_up_self, va_up_ne, ne_eq, not_false_eq_true, hJN, h5] <;> rfl) | rfl) ?_
        | refine T_iald (pc1 := 89) (pc := 88) k_M_findFar_88 rfl (by first | exact ga G (by decide) rfl | assumption) (by assumption) ?_
        | refine T_aload_n (pc1 := 90) (pc := 89) k_M_findFar_89 rfl rfl ?_
        | refine T_aload_nN (pc1 := 90) (pc := 89) k_M_findFar_89 rfl rfl ?_
        | refine T_getR (pc1 := 93) (pc := 90) k_M_findFar_90 rfl f_M_22 rfl (by first | exact ga G (by decide) rfl | assumption) (by first | exact gr G (by decide) rfl | assumption) ?_
        | refine T_iload (pc1 := 95) (pc := 93) k_M_findFar_93 rfl rfl ?_
        | refine T_ialdN (pc1 := 96) (pc := 95) k_M_findFar_95 rfl (by first | exact ga G (by decide) rfl | assumption) (by omega) (by omega) (by first | assumption | (simp (disch := omega) only [pI_eq, pI_row, pI_col, va_up_self, va_up_ne, ne_eq, not_false_eq_true, hJN, h5] <;> rfl) | rfl) ?_
        | refine T_iald (pc1 := 96) (pc := 95) k_M_findFar_95 rfl (by first | exact ga G (by decide) rfl | assumption) (by assumption) ?_
        | refine T_aload_n (pc1 := 97) (pc := 96) k_M_findFar_96 rfl rfl ?_
        | refine T_aload_nN (pc1 := 97) (pc := 96) k_M_findFar_96 rfl rfl ?_
        | refine T_getR (pc1 := 100) (pc := 97) k_M_findFar_97 rfl f_M_19 rfl (by first | exact ga G (by decide) rfl | assumption) (by first | exact gr G (by decide) rfl | assumption) ?_
        | refine T_iload_n (pc1 := 101) (pc := 100) k_M_findFar_100 rfl rfl ?_
        | refine T_ialdN (pc1 := 102) (pc := 101) k_M_findFar_101 rfl (by first | exact ga G (by decide) rfl | assumption) (by omega) (by omega) (by first | assumption | (simp (disch := omega) only [pI_eq, pI_row, pI_col, va_up_self, va_up_ne, ne_eq, not_false_eq_true, hJN, h5] <;> rfl) | rfl) ?_
        | refine T_iald (pc1 := 102) (pc := 101) k_M_findFar_101 rfl (by first | exact ga G (by decide) rfl | assumption) (by assumption) ?_
        | with_reducible refine T_iaddN (pc1 := 103) (pc := 102) k_M_findFar_102 (by decide) ?_
        | refine T_iadd (pc1 := 103) (pc := 102) k_M_findFar_102 rfl ?_
        | refine T_mminV (pc1 := 106) (pc := 103) k_M_findFar_103 rfl l_M_82 (by decide) (Nat.le_of_ble_eq_true rfl) (by with_reducible rfl) (by with_reducible rfl) (by omega) (by omega) ?_
        | refine T_mmin (pc1 := 106) (pc := 103) k_M_findFar_103 rfl l_M_82 (by decide) (Nat.le_of_ble_eq_true rfl) ?_
        | refine T_iastN (pc1 := 107) (pc := 106) k_M_findFar_106 rfl (by first | exact ga G (by decide) rfl | assumption) (by omega) (by omega) ?_
        | refine T_aload_n (pc1 := 108) (pc := 107) k_M_findFar_107 rfl rfl ?_
        | refine T_aload_nN (pc1 := 108) (pc := 107) k_M_findFar_107 rfl rfl ?_
        | refine T_getR (pc1 := 111) (pc := 108) k_M_findFar_108 rfl f_M_22 rfl (by first | exact ga G (by decide) rfl | assumption) (by first | exact gr G (by decide) rfl | assumption) ?_
        | refine T_iload (pc1 := 113) (pc := 111) k_M_findFar_111 rfl rfl ?_
        | refine T_aload_n (pc1 := 114) (pc := 113) k_M_findFar_113 rfl rfl ?_
        | refine T_aload_nN (pc1 := 114) (pc := 113) k_M_findFar_113 rfl rfl ?_
        | refine T_getR (pc1 := 117) (pc := 114) k_M_findFar_114 rfl f_M_22 rfl (by first | exact ga G (by decide) rfl | assumption) (by first | exact gr G (by decide) rfl | assumption) ?_
        | refine T_iload (pc1 := 119) (pc := 117) k_M_findFar_117 rfl rfl ?_
        | refine T_ialdN (pc1 := 120) (pc := 119) k_M_findFar_119 rfl (by first | exact ga G (by decide) rfl | assumption) (by omega) (by omega) (by first | assumption | (simp (disch := omega) only [pI_eq, pI_row, pI_col, va_up_self, va_up_ne, ne_eq, not_false_eq_true, hJN, h5] <;> rfl) | rfl) ?_
        | refine T_iald (pc1 := 120) (pc := 119) k_M_findFar_119 rfl (by first | exact ga G (by decide) rfl | assumption) (by assumption) ?_
        | refine T_aload_n (pc1 := 121) (pc := 120) k_M_findFar_120 rfl rfl ?_
        | refine T_aload_nN (pc1 := 121) (pc := 120) k_M_findFar_120 rfl rfl ?_
        | refine T_getR (pc1 := 124) (pc := 121) k_M_findFar_121 rfl f_M_22 rfl (by first | exact ga G (by decide) rfl | assumption) (by first | exact gr G (by decide) rfl | assumption) ?_
        | refine T_iload (pc1 := 126) (pc := 124) k_M_findFar_124 rfl rfl ?_
        | refine T_ialdN (pc1 := 127) (pc := 126) k_M_findFar_126 rfl (by first | exact ga G (by decide) rfl | assumption) (by omega) (by omega) (by first | assumption | (simp (disch := omega) only [pI_eq, pI_row, pI_col, va_up_self, va_up_ne, ne_eq, not_false_eq_true, hJN, h5] <;> rfl) | rfl) ?_
        | refine T_iald (pc1 := 127) (pc := 126) k_M_findFar_126 rfl (by first | exact ga G (by decide) rfl | assumption) (by assumption) ?_
        | refine T_aload_n (pc1 := 128) (pc := 127) k_M_findFar_127 rfl rfl ?_
        | refine T_aload_nN (pc1 := 128) (pc := 127) k_M_findFar_127 rfl rfl ?_
        | refine T_getR (pc1 := 131) (pc := 128) k_M_findFar_128 rfl f_M_19 rfl (by first | exact ga G (by decide) rfl | assumption) (by first | exact gr G (by decide) rfl | assumption) ?_
        | refine T_iload_n (pc1 := 132) (pc := 131) k_M_findFar_131 rfl rfl ?_
        | refine T_ialdN (pc1 := 133) (pc := 132) k_M_findFar_132 rfl (by first | exact ga G (by decide) rfl | assumption) (by omega) (by omega) (by first | assumption | (simp (disch := omega) only [pI_eq, pI_row, pI_col, va_up_self, va_up_ne, ne_eq, not_false_eq_true, hJN, h5] <;> rfl) | rfl) ?_
        | refine T_iald (pc1 := 133) (pc := 132) k_M_findFar_132 rfl (by first | exact ga G (by decide) rfl | assumption) (by assumption) ?_
        | with_reducible refine T_iaddN (pc1 := 134) (pc := 133) k_M_findFar_133 (by decide) ?_
        | refine T_iadd (pc1 := 134) (pc := 133) k_M_findFar_133 rfl ?_
        | refine T_mminV (pc1 := 137) (pc := 134) k_M_findFar_134 rfl l_M_82 (by decide) (Nat.le_of_ble_eq_true rfl) (by with_reducible rfl) (by with_reducible rfl) (by omega) (by omega) ?_
        | refine T_mmin (pc1 := 137) (pc := 134) k_M_findFar_134 rfl l_M_82 (by decide) (Nat.le_of_ble_eq_true rfl) ?_
        | refine T_iastN (pc1 := 138) (pc := 137) k_M_findFar_137 rfl (by first | exact ga G (by decide) rfl | assumption) (by omega) (by omega) ?_
        | refine T_iincN (b := 1) (pc1 := 141) (pc := 138) k_M_findFar_138 rfl rfl (by decide) ?_
        | refine T_iinc (v := (nI 1)) (pc1 := 141) (pc := 138) k_M_findFar_138 rfl rfl (by decide) ?_
        | refine T_goto (tgt := 41) (pc := 141) k_M_findFar_141 rfl ?_
        | refine T_goto (tgt := 33) (pc := 147) k_M_findFar_147 rfl ?_
        | refine T_retV (pc := 150) k_M_findFar_150 rfl ?_)
      exact kx _ _ J hJ hv
    | succ q ih =>
      intro b r o4 o5 J hb hJ hv kx
      have hJN : J 102 = N := (hJ 102 (by decide)).trans hN
      have hbn : b < n := by omega
      obtain ⟨k, o, t, l, rr, -, -, h1, ho, h2, ht, hne, -⟩ := ok.2.2.2.2.1 b hbn
      have hc1 : J 105 b = nI (c b) := by rw [hJ 105 (by decide)]; exact hC b hbn
      have hcl := hcb b hbn
      have eo := hv o ho
      have et := hv t ht
      have bo := rnd_bd (c := c) (goal := goal) (r := r) he (k := b) (by omega) o
      have bt0 := rnd_bd (c := c) (goal := goal) (r := r) he (k := b) (by omega) t
      have e1 : (ed N b).1 = o := by unfold ed; rw [h1]; exact nI_clamp (by omega)
      have e2 : (ed N b).2 = t := by unfold ed; rw [h2]; exact nI_clamp (by omega)
      have ih := ih (b + 1) r
      rw [rnd, e1, e2] at ih
      generalize rnd (ed N) c (rnds (ed N) c n (ini goal) r) b = f at *
      refine T_iload_n (pc1 := 42) (pc := 41) k_M_findFar_41 rfl rfl ?_
      repeat' (first
        | refine T_iconst (v := (nI 0)) (pc1 := 1) (pc := 0) k_M_findFar_0 rfl (by decide) ?_
        | refine T_istore_n (pc1 := 2) (pc := 1) k_M_findFar_1 rfl (Nat.le_of_ble_eq_true rfl) ?_
        | refine T_iload_n (pc1 := 3) (pc := 2) k_M_findFar_2 rfl rfl ?_
        | refine T_bipush (v := (nI 8)) (pc1 := 5) (pc := 3) k_M_findFar_3 rfl (by decide) ?_
        | (with_reducible refine T_icmp_geN (tgt := 31) (pc1 := 8) (pc := 5) k_M_findFar_5 (by decide) (by decide) (by omega) (by omega) (fun hc => ?_) (fun hc => ?_) <;> first | (exfalso; omega) | skip)
        | refine T_icmp_ge_t (tgt := 31) (pc := 5) k_M_findFar_5 rfl (by decide) ?_
        | refine T_icmp_ge_f (tgt := 31) (pc1 := 8) (pc := 5) k_M_findFar_5 rfl rfl (by decide) ?_
        | refine T_icmp_ge (tgt := 31) (pc1 := 8) (pc := 5) k_M_findFar_5 rfl rfl (fun hc => ?_) (fun hc => ?_)
        | refine T_aload_n (pc1 := 9) (pc := 8) k_M_findFar_8 rfl rfl ?_
        | refine T_aload_nN (pc1 := 9) (pc := 8) k_M_findFar_8 rfl rfl ?_
        | refine T_getR (pc1 := 12) (pc := 9) k_M_findFar_9 rfl f_M_22 rfl (by first | exact ga G (by decide) rfl | assumption) (by first | exact gr G (by decide) rfl | assumption) ?_
        | refine T_iload_n (pc1 := 13) (pc := 12) k_M_findFar_12 rfl rfl ?_
        | refine T_iload_n (pc1 := 14) (pc := 13) k_M_findFar_13 rfl rfl ?_
        | refine T_iload_n (pc1 := 15) (pc := 14) k_M_findFar_14 rfl rfl ?_
        | (with_reducible refine T_icmp_neN (tgt := 22) (pc1 := 18) (pc := 15) k_M_findFar_15 (by decide) (by decide) (by omega) (by omega) (fun hc => ?_) (fun hc => ?_) <;> first | (exfalso; omega) | skip)
        | refine T_icmp_ne_t (tgt := 22) (pc := 15) k_M_findFar_15 rfl (by decide) ?_
        | refine T_icmp_ne_f (tgt := 22) (pc1 := 18) (pc := 15) k_M_findFar_15 rfl rfl (by decide) ?_
        | refine T_icmp_ne (tgt := 22) (pc1 := 18) (pc := 15) k_M_findFar_15 rfl rfl (fun hc => ?_) (fun hc => ?_)
        | refine T_iconst (v := (nI 0)) (pc1 := 19) (pc := 18) k_M_findFar_18 rfl (by decide) ?_
        | refine T_goto (tgt := 24) (pc := 19) k_M_findFar_19 rfl ?_
        | refine T_ldc (v := (nI 1000000)) (pc1 := 24) (pc := 22) k_M_findFar_22 rfl c_M_163 ?_
        | refine T_iastN (pc1 := 25) (pc := 24) k_M_findFar_24 rfl (by first | exact ga G (by decide) rfl | assumption) (by omega) (by omega) ?_
        | refine T_iincN (b := 1) (pc1 := 28) (pc := 25) k_M_findFar_25 rfl rfl (by decide) ?_
        | refine T_iinc (v := (nI 1)) (pc1 := 28) (pc := 25) k_M_findFar_25 rfl rfl (by decide) ?_
        | refine T_goto (tgt := 2) (pc := 28) k_M_findFar_28 rfl ?_
        | refine T_iconst (v := (nI 0)) (pc1 := 32) (pc := 31) k_M_findFar_31 rfl (by decide) ?_
        | refine T_istore_n (pc1 := 33) (pc := 32) k_M_findFar_32 rfl (Nat.le_of_ble_eq_true rfl) ?_
        | refine T_iload_n (pc1 := 34) (pc := 33) k_M_findFar_33 rfl rfl ?_
        | refine T_bipush (v := (nI 8)) (pc1 := 36) (pc := 34) k_M_findFar_34 rfl (by decide) ?_
        | (with_reducible refine T_icmp_geN (tgt := 150) (pc1 := 39) (pc := 36) k_M_findFar_36 (by decide) (by decide) (by omega) (by omega) (fun hc => ?_) (fun hc => ?_) <;> first | (exfalso; omega) | skip)
        | refine T_icmp_ge_t (tgt := 150) (pc := 36) k_M_findFar_36 rfl (by decide) ?_
        | refine T_icmp_ge_f (tgt := 150) (pc1 := 39) (pc := 36) k_M_findFar_36 rfl rfl (by decide) ?_
        | refine T_icmp_ge (tgt := 150) (pc1 := 39) (pc := 36) k_M_findFar_36 rfl rfl (fun hc => ?_) (fun hc => ?_)
        | refine T_iconst (v := (nI 0)) (pc1 := 40) (pc := 39) k_M_findFar_39 rfl (by decide) ?_
        | refine T_istore_n (pc1 := 41) (pc := 40) k_M_findFar_40 rfl (Nat.le_of_ble_eq_true rfl) ?_
        | refine T_aload_n (pc1 := 43) (pc := 42) k_M_findFar_42 rfl rfl ?_
        | refine T_aload_nN (pc1 := 43) (pc := 42) k_M_findFar_42 rfl rfl ?_
        | refine T_getR (pc1 := 46) (pc := 43) k_M_findFar_43 rfl f_M_9 rfl (by first | exact ga G (by decide) rfl | assumption) (by first | exact gr G (by decide) rfl | assumption) ?_
        | refine T_iconst (v := (nI 5)) (pc1 := 47) (pc := 46) k_M_findFar_46 rfl (by decide) ?_
        | refine T_ialdN (pc1 := 48) (pc := 47) k_M_findFar_47 rfl (by first | exact ga G (by decide) rfl | assumption) (by omega) (by omega) (by first | assumption | (simp (disch := omega) only [pI_eq, pI_row, pI_col, va_up_self, va_up_ne, ne_eq, not_false_eq_true, hJN, h5] <;> rfl) | rfl) ?_
        | refine T_iald (pc1 := 48) (pc := 47) k_M_findFar_47 rfl (by first | exact ga G (by decide) rfl | assumption) (by assumption) ?_
        | (with_reducible refine T_icmp_geN (tgt := 144) (pc1 := 51) (pc := 48) k_M_findFar_48 (by decide) (by decide) (by omega) (by omega) (fun hc => ?_) (fun hc => ?_) <;> first | (exfalso; omega) | skip)
        | refine T_icmp_ge_t (tgt := 144) (pc := 48) k_M_findFar_48 rfl (by decide) ?_
        | refine T_icmp_ge_f (tgt := 144) (pc1 := 51) (pc := 48) k_M_findFar_48 rfl rfl (by decide) ?_
        | refine T_icmp_ge (tgt := 144) (pc1 := 51) (pc := 48) k_M_findFar_48 rfl rfl (fun hc => ?_) (fun hc => ?_)
        | refine T_aload_n (pc1 := 52) (pc := 51) k_M_findFar_51 rfl rfl ?_
        | refine T_aload_nN (pc1 := 52) (pc := 51) k_M_findFar_51 rfl rfl ?_
        | refine T_iload_n (pc1 := 53) (pc := 52) k_M_findFar_52 rfl rfl ?_
        | refine T_iconst (v := (nI 1)) (pc1 := 54) (pc := 53) k_M_findFar_53 rfl (by decide) ?_
        | (refine T_cV (As := [_, _]) (d1 := 1) (pc1 := 57) (pc := 54) k_M_findFar_54 rfl (by decide) (Nat.le_of_ble_eq_true rfl) rfl o_M_bitIs l_M_124 rfl (by first | exact ga G (by decide) rfl | assumption) rfl (c_M_bitN G (by assumption) (by omega) (by omega) (by first | assumption | rfl) ?_) <;> try dsimp only [psh])
        | refine T_istore (pc1 := 59) (pc := 57) k_M_findFar_57 rfl (Nat.le_of_ble_eq_true rfl) ?_
        | refine T_aload_n (pc1 := 60) (pc := 59) k_M_findFar_59 rfl rfl ?_
        | refine T_aload_nN (pc1 := 60) (pc := 59) k_M_findFar_59 rfl rfl ?_
        | refine T_iload_n (pc1 := 61) (pc := 60) k_M_findFar_60 rfl rfl ?_
        | refine T_iconst (v := (nI 2)) (pc1 := 62) (pc := 61) k_M_findFar_61 rfl (by decide) ?_
        | (refine T_cV (As := [_, _]) (d1 := 1) (pc1 := 65) (pc := 62) k_M_findFar_62 rfl (by decide) (Nat.le_of_ble_eq_true rfl) rfl o_M_bitIs l_M_124 rfl (by first | exact ga G (by decide) rfl | assumption) rfl (c_M_bitN G (by assumption) (by omega) (by omega) (by first | assumption | rfl) ?_) <;> try dsimp only [psh])
        | refine T_istore (pc1 := 67) (pc := 65) k_M_findFar_65 rfl (Nat.le_of_ble_eq_true rfl) ?_
        | refine T_aload_n (pc1 := 68) (pc := 67) k_M_findFar_67 rfl rfl ?_
        | refine T_aload_nN (pc1 := 68) (pc := 67) k_M_findFar_67 rfl rfl ?_
        | refine T_getR (pc1 := 71) (pc := 68) k_M_findFar_68 rfl f_M_19 rfl (by first | exact ga G (by decide) rfl | assumption) (by first | exact gr G (by decide) rfl | assumption) ?_
        | refine T_iload_n (pc1 := 72) (pc := 71) k_M_findFar_71 rfl rfl ?_
        | refine T_ialdN (pc1 := 73) (pc := 72) k_M_findFar_72 rfl (by first | exact ga G (by decide) rfl | assumption) (by omega) (by omega) (by first | assumption | (simp (disch := omega) only [pI_eq, pI_row, pI_col, va_up_self, va_up_ne, ne_eq, not_false_eq_true, hJN, h5] <;> rfl) | rfl) ?_
        | refine T_iald (pc1 := 73) (pc := 72) k_M_findFar_72 rfl (by first | exact ga G (by decide) rfl | assumption) (by assumption) ?_
        | refine T_aload_n (pc1 := 77) (pc := 76) k_M_findFar_76 rfl rfl ?_
        | refine T_aload_nN (pc1 := 77) (pc := 76) k_M_findFar_76 rfl rfl ?_
        | refine T_getR (pc1 := 80) (pc := 77) k_M_findFar_77 rfl f_M_22 rfl (by first | exact ga G (by decide) rfl | assumption) (by first | exact gr G (by decide) rfl | assumption) ?_
        | refine T_iload (pc1 := 82) (pc := 80) k_M_findFar_80 rfl rfl ?_
        | refine T_aload_n (pc1 := 83) (pc := 82) k_M_findFar_82 rfl rfl ?_
        | refine T_aload_nN (pc1 := 83) (pc := 82) k_M_findFar_82 rfl rfl ?_
        | refine T_getR (pc1 := 86) (pc := 83) k_M_findFar_83 rfl f_M_22 rfl (by first | exact ga G (by decide) rfl | assumption) (by first | exact gr G (by decide) rfl | assumption) ?_
        | refine T_iload (pc1 := 88) (pc := 86) k_M_findFar_86 rfl rfl ?_
        | refine T_ialdN (pc1 := 89) (pc := 88) k_M_findFar_88 rfl (by first | exact ga G (by decide) rfl | assumption) (by omega) (by omega) (by first | assumption | (simp (disch := omega) only [pI_eq, pI_row, pI_col, va_up_self, va_up_ne, ne_eq, not_false_eq_true, hJN, h5] <;> rfl) | rfl) ?_
        | refine T_iald (pc1 := 89) (pc := 88) k_M_findFar_88 rfl (by first | exact ga G (by decide) rfl | assumption) (by assumption) ?_
        | refine T_aload_n (pc1 := 90) (pc := 89) k_M_findFar_89 rfl rfl ?_
        | refine T_aload_nN (pc1 := 90) (pc := 89) k_M_findFar_89 rfl rfl ?_
        | refine T_getR (pc1 := 93) (pc := 90) k_M_findFar_90 rfl f_M_22 rfl (by first | exact ga G (by decide) rfl | assumption) (by first | exact gr G (by decide) rfl | assumption) ?_
        | refine T_iload (pc1 := 95) (pc := 93) k_M_findFar_93 rfl rfl ?_
        | refine T_ialdN (pc1 := 96) (pc := 95) k_M_findFar_95 rfl (by first | exact ga G (by decide) rfl | assumption) (by omega) (by omega) (by first | assumption | (simp (disch := omega) only [pI_eq, pI_row, pI_col, va_up_self, va_up_ne, ne_eq, not_false_eq_true, hJN, h5] <;> rfl) | rfl) ?_
        | refine T_iald (pc1 := 96) (pc := 95) k_M_findFar_95 rfl (by first | exact ga G (by decide) rfl | assumption) (by assumption) ?_
        | refine T_aload_n (pc1 := 97) (pc := 96) k_M_findFar_96 rfl rfl ?_
        | refine T_aload_nN (pc1 := 97) (pc := 96) k_M_findFar_96 rfl rfl ?_
        | refine T_getR (pc1 := 100) (pc := 97) k_M_findFar_97 rfl f_M_19 rfl (by first | exact ga G (by decide) rfl | assumption) (by first | exact gr G (by decide) rfl | assumption) ?_
        | refine T_iload_n (pc1 := 101) (pc := 100) k_M_findFar_100 rfl rfl ?_
        | refine T_ialdN (pc1 := 102) (pc := 101) k_M_findFar_101 rfl (by first | exact ga G (by decide) rfl | assumption) (by omega) (by omega) (by first | assumption | (simp (disch := omega) only [pI_eq, pI_row, pI_col, va_up_self, va_up_ne, ne_eq, not_false_eq_true, hJN, h5] <;> rfl) | rfl) ?_
        | refine T_iald (pc1 := 102) (pc := 101) k_M_findFar_101 rfl (by first | exact ga G (by decide) rfl | assumption) (by assumption) ?_
        | with_reducible refine T_iaddN (pc1 := 103) (pc := 102) k_M_findFar_102 (by decide) ?_
        | refine T_iadd (pc1 := 103) (pc := 102) k_M_findFar_102 rfl ?_
        | refine T_mminV (pc1 := 106) (pc := 103) k_M_findFar_103 rfl l_M_82 (by decide) (Nat.le_of_ble_eq_true rfl) (by with_reducible rfl) (by with_reducible rfl) (by omega) (by omega) ?_
        | refine T_mmin (pc1 := 106) (pc := 103) k_M_findFar_103 rfl l_M_82 (by decide) (Nat.le_of_ble_eq_true rfl) ?_
        | refine T_iastN (pc1 := 107) (pc := 106) k_M_findFar_106 rfl (by first | exact ga G (by decide) rfl | assumption) (by omega) (by omega) ?_
        | refine T_aload_n (pc1 := 108) (pc := 107) k_M_findFar_107 rfl rfl ?_
        | refine T_aload_nN (pc1 := 108) (pc := 107) k_M_findFar_107 rfl rfl ?_
        | refine T_getR (pc1 := 111) (pc := 108) k_M_findFar_108 rfl f_M_22 rfl (by first | exact ga G (by decide) rfl | assumption) (by first | exact gr G (by decide) rfl | assumption) ?_
        | refine T_iload (pc1 := 113) (pc := 111) k_M_findFar_111 rfl rfl ?_
        | refine T_aload_n (pc1 := 114) (pc := 113) k_M_findFar_113 rfl rfl ?_
        | refine T_aload_nN (pc1 := 114) (pc := 113) k_M_findFar_113 rfl rfl ?_
        | refine T_getR (pc1 := 117) (pc := 114) k_M_findFar_114 rfl f_M_22 rfl (by first | exact ga G (by decide) rfl | assumption) (by first | exact gr G (by decide) rfl | assumption) ?_
        | refine T_iload (pc1 := 119) (pc := 117) k_M_findFar_117 rfl rfl ?_
        | refine T_ialdN (pc1 := 120) (pc := 119) k_M_findFar_119 rfl (by first | exact ga G (by decide) rfl | assumption) (by omega) (by omega) (by first | assumption | (simp (disch := omega) only [pI_eq, pI_row, pI_col, va_up_self, va_up_ne, ne_eq, not_false_eq_true, hJN, h5] <;> rfl) | rfl) ?_
        | refine T_iald (pc1 := 120) (pc := 119) k_M_findFar_119 rfl (by first | exact ga G (by decide) rfl | assumption) (by assumption) ?_
        | refine T_aload_n (pc1 := 121) (pc := 120) k_M_findFar_120 rfl rfl ?_
        | refine T_aload_nN (pc1 := 121) (pc := 120) k_M_findFar_120 rfl rfl ?_
        | refine T_getR (pc1 := 124) (pc := 121) k_M_findFar_121 rfl f_M_22 rfl (by first | exact ga G (by decide) rfl | assumption) (by first | exact gr G (by decide) rfl | assumption) ?_
        | refine T_iload (pc1 := 126) (pc := 124) k_M_findFar_124 rfl rfl ?_
        | refine T_ialdN (pc1 := 127) (pc := 126) k_M_findFar_126 rfl (by first | exact ga G (by decide) rfl | assumption) (by omega) (by omega) (by first | assumption | (simp (disch := omega) only [pI_eq, pI_row, pI_col, va_up_self, va_up_ne, ne_eq, not_false_eq_true, hJN, h5] <;> rfl) | rfl) ?_
        | refine T_iald (pc1 := 127) (pc := 126) k_M_findFar_126 rfl (by first | exact ga G (by decide) rfl | assumption) (by assumption) ?_
        | refine T_aload_n (pc1 := 128) (pc := 127) k_M_findFar_127 rfl rfl ?_
        | refine T_aload_nN (pc1 := 128) (pc := 127) k_M_findFar_127 rfl rfl ?_
        | refine T_getR (pc1 := 131) (pc := 128) k_M_findFar_128 rfl f_M_19 rfl (by first | exact ga G (by decide) rfl | assumption) (by first | exact gr G (by decide) rfl | assumption) ?_
        | refine T_iload_n (pc1 := 132) (pc := 131) k_M_findFar_131 rfl rfl ?_
        | refine T_ialdN (pc1 := 133) (pc := 132) k_M_findFar_132 rfl (by first | exact ga G (by decide) rfl | assumption) (by omega) (by omega) (by first | assumption | (simp (disch := omega) only [pI_eq, pI_row, pI_col, va_up_self, va_up_ne, ne_eq, not_false_eq_true, hJN, h5] <;> rfl) | rfl) ?_
        | refine T_iald (pc1 := 133) (pc := 132) k_M_findFar_132 rfl (by first | exact ga G (by decide) rfl | assumption) (by assumption) ?_
        | with_reducible refine T_iaddN (pc1 := 134) (pc := 133) k_M_findFar_133 (by decide) ?_
        | refine T_iadd (pc1 := 134) (pc := 133) k_M_findFar_133 rfl ?_
        | refine T_mminV (pc1 := 137) (pc := 134) k_M_findFar_134 rfl l_M_82 (by decide) (Nat.le_of_ble_eq_true rfl) (by with_reducible rfl) (by with_reducible rfl) (by omega) (by omega) ?_
        | refine T_mmin (pc1 := 137) (pc := 134) k_M_findFar_134 rfl l_M_82 (by decide) (Nat.le_of_ble_eq_true rfl) ?_
        | refine T_iastN (pc1 := 138) (pc := 137) k_M_findFar_137 rfl (by first | exact ga G (by decide) rfl | assumption) (by omega) (by omega) ?_
        | refine T_iincN (b := 1) (pc1 := 141) (pc := 138) k_M_findFar_138 rfl rfl (by decide) ?_
        | refine T_iinc (v := (nI 1)) (pc1 := 141) (pc := 138) k_M_findFar_138 rfl rfl (by decide) ?_
        | refine T_goto (tgt := 41) (pc := 141) k_M_findFar_141 rfl ?_
        | refine T_goto (tgt := 33) (pc := 147) k_M_findFar_147 rfl ?_
        | refine T_retV (pc := 150) k_M_findFar_150 rfl ?_)
      first | (with_reducible refine T_if_leN (tgt := 138) (pc1 := 76) (pc := 73) k_M_findFar_73 (by decide) (by decide) (by omega) (fun hc => ?_) (fun hc => ?_) <;> first | (exfalso; omega) | skip) | refine T_if_le_t (tgt := 138) (pc := 73) k_M_findFar_73 rfl (by decide) ?_ | refine T_if_le_f (tgt := 138) (pc1 := 76) (pc := 73) k_M_findFar_73 rfl rfl (by decide) ?_ | refine T_if_le (tgt := 138) (pc1 := 76) (pc := 73) k_M_findFar_73 rfl rfl (fun hc => ?_) (fun hc => ?_)
      all_goals try (exfalso; omega)
      · have hc0 : c b = 0 := by omega
        repeat' (first
          | refine T_iconst (v := (nI 0)) (pc1 := 1) (pc := 0) k_M_findFar_0 rfl (by decide) ?_
          | refine T_istore_n (pc1 := 2) (pc := 1) k_M_findFar_1 rfl (Nat.le_of_ble_eq_true rfl) ?_
          | refine T_iload_n (pc1 := 3) (pc := 2) k_M_findFar_2 rfl rfl ?_
          | refine T_bipush (v := (nI 8)) (pc1 := 5) (pc := 3) k_M_findFar_3 rfl (by decide) ?_
          | (with_reducible refine T_icmp_geN (tgt := 31) (pc1 := 8) (pc := 5) k_M_findFar_5 (by decide) (by decide) (by omega) (by omega) (fun hc => ?_) (fun hc => ?_) <;> first | (exfalso; omega) | skip)
          | refine T_icmp_ge_t (tgt := 31) (pc := 5) k_M_findFar_5 rfl (by decide) ?_
          | refine T_icmp_ge_f (tgt := 31) (pc1 := 8) (pc := 5) k_M_findFar_5 rfl rfl (by decide) ?_
          | refine T_icmp_ge (tgt := 31) (pc1 := 8) (pc := 5) k_M_findFar_5 rfl rfl (fun hc => ?_) (fun hc => ?_)
          | refine T_aload_n (pc1 := 9) (pc := 8) k_M_findFar_8 rfl rfl ?_
          | refine T_aload_nN (pc1 := 9) (pc := 8) k_M_findFar_8 rfl rfl ?_
          | refine T_getR (pc1 := 12) (pc := 9) k_M_findFar_9 rfl f_M_22 rfl (by first | exact ga G (by decide) rfl | assumption) (by first | exact gr G (by decide) rfl | assumption) ?_
          | refine T_iload_n (pc1 := 13) (pc := 12) k_M_findFar_12 rfl rfl ?_
          | refine T_iload_n (pc1 := 14) (pc := 13) k_M_findFar_13 rfl rfl ?_
          | refine T_iload_n (pc1 := 15) (pc := 14) k_M_findFar_14 rfl rfl ?_
          | (with_reducible refine T_icmp_neN (tgt := 22) (pc1 := 18) (pc := 15) k_M_findFar_15 (by decide) (by decide) (by omega) (by omega) (fun hc => ?_) (fun hc => ?_) <;> first | (exfalso; omega) | skip)
          | refine T_icmp_ne_t (tgt := 22) (pc := 15) k_M_findFar_15 rfl (by decide) ?_
          | refine T_icmp_ne_f (tgt := 22) (pc1 := 18) (pc := 15) k_M_findFar_15 rfl rfl (by decide) ?_
          | refine T_icmp_ne (tgt := 22) (pc1 := 18) (pc := 15) k_M_findFar_15 rfl rfl (fun hc => ?_) (fun hc => ?_)
          | refine T_iconst (v := (nI 0)) (pc1 := 19) (pc := 18) k_M_findFar_18 rfl (by decide) ?_
          | refine T_goto (tgt := 24) (pc := 19) k_M_findFar_19 rfl ?_
          | refine T_ldc (v := (nI 1000000)) (pc1 := 24) (pc := 22) k_M_findFar_22 rfl c_M_163 ?_
          | refine T_iastN (pc1 := 25) (pc := 24) k_M_findFar_24 rfl (by first | exact ga G (by decide) rfl | assumption) (by omega) (by omega) ?_
          | refine T_iincN (b := 1) (pc1 := 28) (pc := 25) k_M_findFar_25 rfl rfl (by decide) ?_
          | refine T_iinc (v := (nI 1)) (pc1 := 28) (pc := 25) k_M_findFar_25 rfl rfl (by decide) ?_
          | refine T_goto (tgt := 2) (pc := 28) k_M_findFar_28 rfl ?_
          | refine T_iconst (v := (nI 0)) (pc1 := 32) (pc := 31) k_M_findFar_31 rfl (by decide) ?_
          | refine T_istore_n (pc1 := 33) (pc := 32) k_M_findFar_32 rfl (Nat.le_of_ble_eq_true rfl) ?_
          | refine T_iload_n (pc1 := 34) (pc := 33) k_M_findFar_33 rfl rfl ?_
          | refine T_bipush (v := (nI 8)) (pc1 := 36) (pc := 34) k_M_findFar_34 rfl (by decide) ?_
          | (with_reducible refine T_icmp_geN (tgt := 150) (pc1 := 39) (pc := 36) k_M_findFar_36 (by decide) (by decide) (by omega) (by omega) (fun hc => ?_) (fun hc => ?_) <;> first | (exfalso; omega) | skip)
          | refine T_icmp_ge_t (tgt := 150) (pc := 36) k_M_findFar_36 rfl (by decide) ?_
          | refine T_icmp_ge_f (tgt := 150) (pc1 := 39) (pc := 36) k_M_findFar_36 rfl rfl (by decide) ?_
          | refine T_icmp_ge (tgt := 150) (pc1 := 39) (pc := 36) k_M_findFar_36 rfl rfl (fun hc => ?_) (fun hc => ?_)
          | refine T_iconst (v := (nI 0)) (pc1 := 40) (pc := 39) k_M_findFar_39 rfl (by decide) ?_
          | refine T_istore_n (pc1 := 41) (pc := 40) k_M_findFar_40 rfl (Nat.le_of_ble_eq_true rfl) ?_
          | refine T_aload_n (pc1 := 43) (pc := 42) k_M_findFar_42 rfl rfl ?_
          | refine T_aload_nN (pc1 := 43) (pc := 42) k_M_findFar_42 rfl rfl ?_
          | refine T_getR (pc1 := 46) (pc := 43) k_M_findFar_43 rfl f_M_9 rfl (by first | exact ga G (by decide) rfl | assumption) (by first | exact gr G (by decide) rfl | assumption) ?_
          | refine T_iconst (v := (nI 5)) (pc1 := 47) (pc := 46) k_M_findFar_46 rfl (by decide) ?_
          | refine T_ialdN (pc1 := 48) (pc := 47) k_M_findFar_47 rfl (by first | exact ga G (by decide) rfl | assumption) (by omega) (by omega) (by first | assumption | (simp (disch := omega) only [pI_eq, pI_row, pI_col, va_up_self, va_up_ne, ne_eq, not_false_eq_true, hJN, h5] <;> rfl) | rfl) ?_
          | refine T_iald (pc1 := 48) (pc := 47) k_M_findFar_47 rfl (by first | exact ga G (by decide) rfl | assumption) (by assumption) ?_
          | (with_reducible refine T_icmp_geN (tgt := 144) (pc1 := 51) (pc := 48) k_M_findFar_48 (by decide) (by decide) (by omega) (by omega) (fun hc => ?_) (fun hc => ?_) <;> first | (exfalso; omega) | skip)
          | refine T_icmp_ge_t (tgt := 144) (pc := 48) k_M_findFar_48 rfl (by decide) ?_
          | refine T_icmp_ge_f (tgt := 144) (pc1 := 51) (pc := 48) k_M_findFar_48 rfl rfl (by decide) ?_
          | refine T_icmp_ge (tgt := 144) (pc1 := 51) (pc := 48) k_M_findFar_48 rfl rfl (fun hc => ?_) (fun hc => ?_)
          | refine T_aload_n (pc1 := 52) (pc := 51) k_M_findFar_51 rfl rfl ?_
          | refine T_aload_nN (pc1 := 52) (pc := 51) k_M_findFar_51 rfl rfl ?_
          | refine T_iload_n (pc1 := 53) (pc := 52) k_M_findFar_52 rfl rfl ?_
          | refine T_iconst (v := (nI 1)) (pc1 := 54) (pc := 53) k_M_findFar_53 rfl (by decide) ?_
          | (refine T_cV (As := [_, _]) (d1 := 1) (pc1 := 57) (pc := 54) k_M_findFar_54 rfl (by decide) (Nat.le_of_ble_eq_true rfl) rfl o_M_bitIs l_M_124 rfl (by first | exact ga G (by decide) rfl | assumption) rfl (c_M_bitN G (by assumption) (by omega) (by omega) (by first | assumption | rfl) ?_) <;> try dsimp only [psh])
          | refine T_istore (pc1 := 59) (pc := 57) k_M_findFar_57 rfl (Nat.le_of_ble_eq_true rfl) ?_
          | refine T_aload_n (pc1 := 60) (pc := 59) k_M_findFar_59 rfl rfl ?_
          | refine T_aload_nN (pc1 := 60) (pc := 59) k_M_findFar_59 rfl rfl ?_
          | refine T_iload_n (pc1 := 61) (pc := 60) k_M_findFar_60 rfl rfl ?_
          | refine T_iconst (v := (nI 2)) (pc1 := 62) (pc := 61) k_M_findFar_61 rfl (by decide) ?_
          | (refine T_cV (As := [_, _]) (d1 := 1) (pc1 := 65) (pc := 62) k_M_findFar_62 rfl (by decide) (Nat.le_of_ble_eq_true rfl) rfl o_M_bitIs l_M_124 rfl (by first | exact ga G (by decide) rfl | assumption) rfl (c_M_bitN G (by assumption) (by omega) (by omega) (by first | assumption | rfl) ?_) <;> try dsimp only [psh])
          | refine T_istore (pc1 := 67) (pc := 65) k_M_findFar_65 rfl (Nat.le_of_ble_eq_true rfl) ?_
          | refine T_aload_n (pc1 := 68) (pc := 67) k_M_findFar_67 rfl rfl ?_
          | refine T_aload_nN (pc1 := 68) (pc := 67) k_M_findFar_67 rfl rfl ?_
          | refine T_getR (pc1 := 71) (pc := 68) k_M_findFar_68 rfl f_M_19 rfl (by first | exact ga G (by decide) rfl | assumption) (by first | exact gr G (by decide) rfl | assumption) ?_
          | refine T_iload_n (pc1 := 72) (pc := 71) k_M_findFar_71 rfl rfl ?_
          | refine T_ialdN (pc1 := 73) (pc := 72) k_M_findFar_72 rfl (by first | exact ga G (by decide) rfl | assumption) (by omega) (by omega) (by first | assumption | (simp (disch := omega) only [pI_eq, pI_row, pI_col, va_up_self, va_up_ne, ne_eq, not_false_eq_true, hJN, h5] <;> rfl) | rfl) ?_
          | refine T_iald (pc1 := 73) (pc := 72) k_M_findFar_72 rfl (by first | exact ga G (by decide) rfl | assumption) (by assumption) ?_
          | (with_reducible refine T_if_leN (tgt := 138) (pc1 := 76) (pc := 73) k_M_findFar_73 (by decide) (by decide) (by omega) (fun hc => ?_) (fun hc => ?_) <;> first | (exfalso; omega) | skip)
          | refine T_if_le_t (tgt := 138) (pc := 73) k_M_findFar_73 rfl (by decide) ?_
          | refine T_if_le_f (tgt := 138) (pc1 := 76) (pc := 73) k_M_findFar_73 rfl rfl (by decide) ?_
          | refine T_if_le (tgt := 138) (pc1 := 76) (pc := 73) k_M_findFar_73 rfl rfl (fun hc => ?_) (fun hc => ?_)
          | refine T_aload_n (pc1 := 77) (pc := 76) k_M_findFar_76 rfl rfl ?_
          | refine T_aload_nN (pc1 := 77) (pc := 76) k_M_findFar_76 rfl rfl ?_
          | refine T_getR (pc1 := 80) (pc := 77) k_M_findFar_77 rfl f_M_22 rfl (by first | exact ga G (by decide) rfl | assumption) (by first | exact gr G (by decide) rfl | assumption) ?_
          | refine T_iload (pc1 := 82) (pc := 80) k_M_findFar_80 rfl rfl ?_
          | refine T_aload_n (pc1 := 83) (pc := 82) k_M_findFar_82 rfl rfl ?_
          | refine T_aload_nN (pc1 := 83) (pc := 82) k_M_findFar_82 rfl rfl ?_
          | refine T_getR (pc1 := 86) (pc := 83) k_M_findFar_83 rfl f_M_22 rfl (by first | exact ga G (by decide) rfl | assumption) (by first | exact gr G (by decide) rfl | assumption) ?_
          | refine T_iload (pc1 := 88) (pc := 86) k_M_findFar_86 rfl rfl ?_
          | refine T_ialdN (pc1 := 89) (pc := 88) k_M_findFar_88 rfl (by first | exact ga G (by decide) rfl | assumption) (by omega) (by omega) (by first | assumption | (simp (disch := omega) only [pI_eq, pI_row, pI_col, va_up_self, va_up_ne, ne_eq, not_false_eq_true, hJN, h5] <;> rfl) | rfl) ?_
          | refine T_iald (pc1 := 89) (pc := 88) k_M_findFar_88 rfl (by first | exact ga G (by decide) rfl | assumption) (by assumption) ?_
          | refine T_aload_n (pc1 := 90) (pc := 89) k_M_findFar_89 rfl rfl ?_
          | refine T_aload_nN (pc1 := 90) (pc := 89) k_M_findFar_89 rfl rfl ?_
          | refine T_getR (pc1 := 93) (pc := 90) k_M_findFar_90 rfl f_M_22 rfl (by first | exact ga G (by decide) rfl | assumption) (by first | exact gr G (by decide) rfl | assumption) ?_
          | refine T_iload (pc1 := 95) (pc := 93) k_M_findFar_93 rfl rfl ?_
          | refine T_ialdN (pc1 := 96) (pc := 95) k_M_findFar_95 rfl (by first | exact ga G (by decide) rfl | assumption) (by omega) (by omega) (by first | assumption | (simp (disch := omega) only [pI_eq, pI_row, pI_col, va_up_self, va_up_ne, ne_eq, not_false_eq_true, hJN, h5] <;> rfl) | rfl) ?_
          | refine T_iald (pc1 := 96) (pc := 95) k_M_findFar_95 rfl (by first | exact ga G (by decide) rfl | assumption) (by assumption) ?_
          | refine T_aload_n (pc1 := 97) (pc := 96) k_M_findFar_96 rfl rfl ?_
          | refine T_aload_nN (pc1 := 97) (pc := 96) k_M_findFar_96 rfl rfl ?_
          | refine T_getR (pc1 := 100) (pc := 97) k_M_findFar_97 rfl f_M_19 rfl (by first | exact ga G (by decide) rfl | assumption) (by first | exact gr G (by decide) rfl | assumption) ?_
          | refine T_iload_n (pc1 := 101) (pc := 100) k_M_findFar_100 rfl rfl ?_
          | refine T_ialdN (pc1 := 102) (pc := 101) k_M_findFar_101 rfl (by first | exact ga G (by decide) rfl | assumption) (by omega) (by omega) (by first | assumption | (simp (disch := omega) only [pI_eq, pI_row, pI_col, va_up_self, va_up_ne, ne_eq, not_false_eq_true, hJN, h5] <;> rfl) | rfl) ?_
          | refine T_iald (pc1 := 102) (pc := 101) k_M_findFar_101 rfl (by first | exact ga G (by decide) rfl | assumption) (by assumption) ?_
          | with_reducible refine T_iaddN (pc1 := 103) (pc := 102) k_M_findFar_102 (by decide) ?_
          | refine T_iadd (pc1 := 103) (pc := 102) k_M_findFar_102 rfl ?_
          | refine T_mminV (pc1 := 106) (pc := 103) k_M_findFar_103 rfl l_M_82 (by decide) (Nat.le_of_ble_eq_true rfl) (by with_reducible rfl) (by with_reducible rfl) (by omega) (by omega) ?_
          | refine T_mmin (pc1 := 106) (pc := 103) k_M_findFar_103 rfl l_M_82 (by decide) (Nat.le_of_ble_eq_true rfl) ?_
          | refine T_iastN (pc1 := 107) (pc := 106) k_M_findFar_106 rfl (by first | exact ga G (by decide) rfl | assumption) (by omega) (by omega) ?_
          | refine T_aload_n (pc1 := 108) (pc := 107) k_M_findFar_107 rfl rfl ?_
          | refine T_aload_nN (pc1 := 108) (pc := 107) k_M_findFar_107 rfl rfl ?_
          | refine T_getR (pc1 := 111) (pc := 108) k_M_findFar_108 rfl f_M_22 rfl (by first | exact ga G (by decide) rfl | assumption) (by first | exact gr G (by decide) rfl | assumption) ?_
          | refine T_iload (pc1 := 113) (pc := 111) k_M_findFar_111 rfl rfl ?_
          | refine T_aload_n (pc1 := 114) (pc := 113) k_M_findFar_113 rfl rfl ?_
          | refine T_aload_nN (pc1 := 114) (pc := 113) k_M_findFar_113 rfl rfl ?_
          | refine T_getR (pc1 := 117) (pc := 114) k_M_findFar_114 rfl f_M_22 rfl (by first | exact ga G (by decide) rfl | assumption) (by first | exact gr G (by decide) rfl | assumption) ?_
          | refine T_iload (pc1 := 119) (pc := 117) k_M_findFar_117 rfl rfl ?_
          | refine T_ialdN (pc1 := 120) (pc := 119) k_M_findFar_119 rfl (by first | exact ga G (by decide) rfl | assumption) (by omega) (by omega) (by first | assumption | (simp (disch := omega) only [pI_eq, pI_row, pI_col, va_up_self, va_up_ne, ne_eq, not_false_eq_true, hJN, h5] <;> rfl) | rfl) ?_
          | refine T_iald (pc1 := 120) (pc := 119) k_M_findFar_119 rfl (by first | exact ga G (by decide) rfl | assumption) (by assumption) ?_
          | refine T_aload_n (pc1 := 121) (pc := 120) k_M_findFar_120 rfl rfl ?_
          | refine T_aload_nN (pc1 := 121) (pc := 120) k_M_findFar_120 rfl rfl ?_
          | refine T_getR (pc1 := 124) (pc := 121) k_M_findFar_121 rfl f_M_22 rfl (by first | exact ga G (by decide) rfl | assumption) (by first | exact gr G (by decide) rfl | assumption) ?_
          | refine T_iload (pc1 := 126) (pc := 124) k_M_findFar_124 rfl rfl ?_
          | refine T_ialdN (pc1 := 127) (pc := 126) k_M_findFar_126 rfl (by first | exact ga G (by decide) rfl | assumption) (by omega) (by omega) (by first | assumption | (simp (disch := omega) only [pI_eq, pI_row, pI_col, va_up_self, va_up_ne, ne_eq, not_false_eq_true, hJN, h5] <;> rfl) | rfl) ?_
          | refine T_iald (pc1 := 127) (pc := 126) k_M_findFar_126 rfl (by first | exact ga G (by decide) rfl | assumption) (by assumption) ?_
          | refine T_aload_n (pc1 := 128) (pc := 127) k_M_findFar_127 rfl rfl ?_
          | refine T_aload_nN (pc1 := 128) (pc := 127) k_M_findFar_127 rfl rfl ?_
          | refine T_getR (pc1 := 131) (pc := 128) k_M_findFar_128 rfl f_M_19 rfl (by first | exact ga G (by decide) rfl | assumption) (by first | exact gr G (by decide) rfl | assumption) ?_
          | refine T_iload_n (pc1 := 132) (pc := 131) k_M_findFar_131 rfl rfl ?_
          | refine T_ialdN (pc1 := 133) (pc := 132) k_M_findFar_132 rfl (by first | exact ga G (by decide) rfl | assumption) (by omega) (by omega) (by first | assumption | (simp (disch := omega) only [pI_eq, pI_row, pI_col, va_up_self, va_up_ne, ne_eq, not_false_eq_true, hJN, h5] <;> rfl) | rfl) ?_
          | refine T_iald (pc1 := 133) (pc := 132) k_M_findFar_132 rfl (by first | exact ga G (by decide) rfl | assumption) (by assumption) ?_
          | with_reducible refine T_iaddN (pc1 := 134) (pc := 133) k_M_findFar_133 (by decide) ?_
          | refine T_iadd (pc1 := 134) (pc := 133) k_M_findFar_133 rfl ?_
          | refine T_mminV (pc1 := 137) (pc := 134) k_M_findFar_134 rfl l_M_82 (by decide) (Nat.le_of_ble_eq_true rfl) (by with_reducible rfl) (by with_reducible rfl) (by omega) (by omega) ?_
          | refine T_mmin (pc1 := 137) (pc := 134) k_M_findFar_134 rfl l_M_82 (by decide) (Nat.le_of_ble_eq_true rfl) ?_
          | refine T_iastN (pc1 := 138) (pc := 137) k_M_findFar_137 rfl (by first | exact ga G (by decide) rfl | assumption) (by omega) (by omega) ?_
          | refine T_iincN (b := 1) (pc1 := 141) (pc := 138) k_M_findFar_138 rfl rfl (by decide) ?_
          | refine T_iinc (v := (nI 1)) (pc1 := 141) (pc := 138) k_M_findFar_138 rfl rfl (by decide) ?_
          | refine T_goto (tgt := 41) (pc := 141) k_M_findFar_141 rfl ?_
          | refine T_iincN (b := 1) (pc1 := 147) (pc := 144) k_M_findFar_144 rfl rfl (by decide) ?_
          | refine T_iinc (v := (nI 1)) (pc1 := 147) (pc := 144) k_M_findFar_144 rfl rfl (by decide) ?_
          | refine T_goto (tgt := 33) (pc := 147) k_M_findFar_147 rfl ?_
          | refine T_retV (pc := 150) k_M_findFar_150 rfl ?_)
        refine ih _ _ J (by omega) hJ (fun v hv8 => ?_) kx
        rw [rx, if_pos hc0]
        exact hv v hv8
      · have hc0 : c b ≠ 0 := by omega
        repeat' (first
          | refine T_iconst (v := (nI 0)) (pc1 := 1) (pc := 0) k_M_findFar_0 rfl (by decide) ?_
          | refine T_istore_n (pc1 := 2) (pc := 1) k_M_findFar_1 rfl (Nat.le_of_ble_eq_true rfl) ?_
          | refine T_iload_n (pc1 := 3) (pc := 2) k_M_findFar_2 rfl rfl ?_
          | refine T_bipush (v := (nI 8)) (pc1 := 5) (pc := 3) k_M_findFar_3 rfl (by decide) ?_
          | (with_reducible refine T_icmp_geN (tgt := 31) (pc1 := 8) (pc := 5) k_M_findFar_5 (by decide) (by decide) (by omega) (by omega) (fun hc => ?_) (fun hc => ?_) <;> first | (exfalso; omega) | skip)
          | refine T_icmp_ge_t (tgt := 31) (pc := 5) k_M_findFar_5 rfl (by decide) ?_
          | refine T_icmp_ge_f (tgt := 31) (pc1 := 8) (pc := 5) k_M_findFar_5 rfl rfl (by decide) ?_
          | refine T_icmp_ge (tgt := 31) (pc1 := 8) (pc := 5) k_M_findFar_5 rfl rfl (fun hc => ?_) (fun hc => ?_)
          | refine T_aload_n (pc1 := 9) (pc := 8) k_M_findFar_8 rfl rfl ?_
          | refine T_aload_nN (pc1 := 9) (pc := 8) k_M_findFar_8 rfl rfl ?_
          | refine T_getR (pc1 := 12) (pc := 9) k_M_findFar_9 rfl f_M_22 rfl (by first | exact ga G (by decide) rfl | assumption) (by first | exact gr G (by decide) rfl | assumption) ?_
          | refine T_iload_n (pc1 := 13) (pc := 12) k_M_findFar_12 rfl rfl ?_
          | refine T_iload_n (pc1 := 14) (pc := 13) k_M_findFar_13 rfl rfl ?_
          | refine T_iload_n (pc1 := 15) (pc := 14) k_M_findFar_14 rfl rfl ?_
          | (with_reducible refine T_icmp_neN (tgt := 22) (pc1 := 18) (pc := 15) k_M_findFar_15 (by decide) (by decide) (by omega) (by omega) (fun hc => ?_) (fun hc => ?_) <;> first | (exfalso; omega) | skip)
          | refine T_icmp_ne_t (tgt := 22) (pc := 15) k_M_findFar_15 rfl (by decide) ?_
          | refine T_icmp_ne_f (tgt := 22) (pc1 := 18) (pc := 15) k_M_findFar_15 rfl rfl (by decide) ?_
          | refine T_icmp_ne (tgt := 22) (pc1 := 18) (pc := 15) k_M_findFar_15 rfl rfl (fun hc => ?_) (fun hc => ?_)
          | refine T_iconst (v := (nI 0)) (pc1 := 19) (pc := 18) k_M_findFar_18 rfl (by decide) ?_
          | refine T_goto (tgt := 24) (pc := 19) k_M_findFar_19 rfl ?_
          | refine T_ldc (v := (nI 1000000)) (pc1 := 24) (pc := 22) k_M_findFar_22 rfl c_M_163 ?_
          | refine T_iastN (pc1 := 25) (pc := 24) k_M_findFar_24 rfl (by first | exact ga G (by decide) rfl | assumption) (by omega) (by omega) ?_
          | refine T_iincN (b := 1) (pc1 := 28) (pc := 25) k_M_findFar_25 rfl rfl (by decide) ?_
          | refine T_iinc (v := (nI 1)) (pc1 := 28) (pc := 25) k_M_findFar_25 rfl rfl (by decide) ?_
          | refine T_goto (tgt := 2) (pc := 28) k_M_findFar_28 rfl ?_
          | refine T_iconst (v := (nI 0)) (pc1 := 32) (pc := 31) k_M_findFar_31 rfl (by decide) ?_
          | refine T_istore_n (pc1 := 33) (pc := 32) k_M_findFar_32 rfl (Nat.le_of_ble_eq_true rfl) ?_
          | refine T_iload_n (pc1 := 34) (pc := 33) k_M_findFar_33 rfl rfl ?_
          | refine T_bipush (v := (nI 8)) (pc1 := 36) (pc := 34) k_M_findFar_34 rfl (by decide) ?_
          | (with_reducible refine T_icmp_geN (tgt := 150) (pc1 := 39) (pc := 36) k_M_findFar_36 (by decide) (by decide) (by omega) (by omega) (fun hc => ?_) (fun hc => ?_) <;> first | (exfalso; omega) | skip)
          | refine T_icmp_ge_t (tgt := 150) (pc := 36) k_M_findFar_36 rfl (by decide) ?_
          | refine T_icmp_ge_f (tgt := 150) (pc1 := 39) (pc := 36) k_M_findFar_36 rfl rfl (by decide) ?_
          | refine T_icmp_ge (tgt := 150) (pc1 := 39) (pc := 36) k_M_findFar_36 rfl rfl (fun hc => ?_) (fun hc => ?_)
          | refine T_iconst (v := (nI 0)) (pc1 := 40) (pc := 39) k_M_findFar_39 rfl (by decide) ?_
          | refine T_istore_n (pc1 := 41) (pc := 40) k_M_findFar_40 rfl (Nat.le_of_ble_eq_true rfl) ?_
          | refine T_aload_n (pc1 := 43) (pc := 42) k_M_findFar_42 rfl rfl ?_
          | refine T_aload_nN (pc1 := 43) (pc := 42) k_M_findFar_42 rfl rfl ?_
          | refine T_getR (pc1 := 46) (pc := 43) k_M_findFar_43 rfl f_M_9 rfl (by first | exact ga G (by decide) rfl | assumption) (by first | exact gr G (by decide) rfl | assumption) ?_
          | refine T_iconst (v := (nI 5)) (pc1 := 47) (pc := 46) k_M_findFar_46 rfl (by decide) ?_
          | refine T_ialdN (pc1 := 48) (pc := 47) k_M_findFar_47 rfl (by first | exact ga G (by decide) rfl | assumption) (by omega) (by omega) (by first | assumption | (simp (disch := omega) only [pI_eq, pI_row, pI_col, va_up_self, va_up_ne, ne_eq, not_false_eq_true, hJN, h5, eo, et, hc1] <;> rfl) | rfl) ?_
          | refine T_iald (pc1 := 48) (pc := 47) k_M_findFar_47 rfl (by first | exact ga G (by decide) rfl | assumption) (by assumption) ?_
          | (with_reducible refine T_icmp_geN (tgt := 144) (pc1 := 51) (pc := 48) k_M_findFar_48 (by decide) (by decide) (by omega) (by omega) (fun hc => ?_) (fun hc => ?_) <;> first | (exfalso; omega) | skip)
          | refine T_icmp_ge_t (tgt := 144) (pc := 48) k_M_findFar_48 rfl (by decide) ?_
          | refine T_icmp_ge_f (tgt := 144) (pc1 := 51) (pc := 48) k_M_findFar_48 rfl rfl (by decide) ?_
          | refine T_icmp_ge (tgt := 144) (pc1 := 51) (pc := 48) k_M_findFar_48 rfl rfl (fun hc => ?_) (fun hc => ?_)
          | refine T_aload_n (pc1 := 52) (pc := 51) k_M_findFar_51 rfl rfl ?_
          | refine T_aload_nN (pc1 := 52) (pc := 51) k_M_findFar_51 rfl rfl ?_
          | refine T_iload_n (pc1 := 53) (pc := 52) k_M_findFar_52 rfl rfl ?_
          | refine T_iconst (v := (nI 1)) (pc1 := 54) (pc := 53) k_M_findFar_53 rfl (by decide) ?_
          | (refine T_cV (As := [_, _]) (d1 := 1) (pc1 := 57) (pc := 54) k_M_findFar_54 rfl (by decide) (Nat.le_of_ble_eq_true rfl) rfl o_M_bitIs l_M_124 rfl (by first | exact ga G (by decide) rfl | assumption) rfl (c_M_bitN G (by assumption) (by omega) (by omega) (by first | assumption | rfl) ?_) <;> try dsimp only [psh])
          | refine T_istore (pc1 := 59) (pc := 57) k_M_findFar_57 rfl (Nat.le_of_ble_eq_true rfl) ?_
          | refine T_aload_n (pc1 := 60) (pc := 59) k_M_findFar_59 rfl rfl ?_
          | refine T_aload_nN (pc1 := 60) (pc := 59) k_M_findFar_59 rfl rfl ?_
          | refine T_iload_n (pc1 := 61) (pc := 60) k_M_findFar_60 rfl rfl ?_
          | refine T_iconst (v := (nI 2)) (pc1 := 62) (pc := 61) k_M_findFar_61 rfl (by decide) ?_
          | (refine T_cV (As := [_, _]) (d1 := 1) (pc1 := 65) (pc := 62) k_M_findFar_62 rfl (by decide) (Nat.le_of_ble_eq_true rfl) rfl o_M_bitIs l_M_124 rfl (by first | exact ga G (by decide) rfl | assumption) rfl (c_M_bitN G (by assumption) (by omega) (by omega) (by first | assumption | rfl) ?_) <;> try dsimp only [psh])
          | refine T_istore (pc1 := 67) (pc := 65) k_M_findFar_65 rfl (Nat.le_of_ble_eq_true rfl) ?_
          | refine T_aload_n (pc1 := 68) (pc := 67) k_M_findFar_67 rfl rfl ?_
          | refine T_aload_nN (pc1 := 68) (pc := 67) k_M_findFar_67 rfl rfl ?_
          | refine T_getR (pc1 := 71) (pc := 68) k_M_findFar_68 rfl f_M_19 rfl (by first | exact ga G (by decide) rfl | assumption) (by first | exact gr G (by decide) rfl | assumption) ?_
          | refine T_iload_n (pc1 := 72) (pc := 71) k_M_findFar_71 rfl rfl ?_
          | refine T_ialdN (pc1 := 73) (pc := 72) k_M_findFar_72 rfl (by first | exact ga G (by decide) rfl | assumption) (by omega) (by omega) (by first | assumption | (simp (disch := omega) only [pI_eq, pI_row, pI_col, va_up_self, va_up_ne, ne_eq, not_false_eq_true, hJN, h5, eo, et, hc1] <;> rfl) | rfl) ?_
          | refine T_iald (pc1 := 73) (pc := 72) k_M_findFar_72 rfl (by first | exact ga G (by decide) rfl | assumption) (by assumption) ?_
          | (with_reducible refine T_if_leN (tgt := 138) (pc1 := 76) (pc := 73) k_M_findFar_73 (by decide) (by decide) (by omega) (fun hc => ?_) (fun hc => ?_) <;> first | (exfalso; omega) | skip)
          | refine T_if_le_t (tgt := 138) (pc := 73) k_M_findFar_73 rfl (by decide) ?_
          | refine T_if_le_f (tgt := 138) (pc1 := 76) (pc := 73) k_M_findFar_73 rfl rfl (by decide) ?_
          | refine T_if_le (tgt := 138) (pc1 := 76) (pc := 73) k_M_findFar_73 rfl rfl (fun hc => ?_) (fun hc => ?_)
          | refine T_aload_n (pc1 := 77) (pc := 76) k_M_findFar_76 rfl rfl ?_
          | refine T_aload_nN (pc1 := 77) (pc := 76) k_M_findFar_76 rfl rfl ?_
          | refine T_getR (pc1 := 80) (pc := 77) k_M_findFar_77 rfl f_M_22 rfl (by first | exact ga G (by decide) rfl | assumption) (by first | exact gr G (by decide) rfl | assumption) ?_
          | refine T_iload (pc1 := 82) (pc := 80) k_M_findFar_80 rfl rfl ?_
          | refine T_aload_n (pc1 := 83) (pc := 82) k_M_findFar_82 rfl rfl ?_
          | refine T_aload_nN (pc1 := 83) (pc := 82) k_M_findFar_82 rfl rfl ?_
          | refine T_getR (pc1 := 86) (pc := 83) k_M_findFar_83 rfl f_M_22 rfl (by first | exact ga G (by decide) rfl | assumption) (by first | exact gr G (by decide) rfl | assumption) ?_
          | refine T_iload (pc1 := 88) (pc := 86) k_M_findFar_86 rfl rfl ?_
          | refine T_ialdN (pc1 := 89) (pc := 88) k_M_findFar_88 rfl (by first | exact ga G (by decide) rfl | assumption) (by omega) (by omega) (by first | assumption | (simp (disch := omega) only [pI_eq, pI_row, pI_col, va_up_self, va_up_ne, ne_eq, not_false_eq_true, hJN, h5, eo, et, hc1] <;> rfl) | rfl) ?_
          | refine T_iald (pc1 := 89) (pc := 88) k_M_findFar_88 rfl (by first | exact ga G (by decide) rfl | assumption) (by assumption) ?_
          | refine T_aload_n (pc1 := 90) (pc := 89) k_M_findFar_89 rfl rfl ?_
          | refine T_aload_nN (pc1 := 90) (pc := 89) k_M_findFar_89 rfl rfl ?_
          | refine T_getR (pc1 := 93) (pc := 90) k_M_findFar_90 rfl f_M_22 rfl (by first | exact ga G (by decide) rfl | assumption) (by first | exact gr G (by decide) rfl | assumption) ?_
          | refine T_iload (pc1 := 95) (pc := 93) k_M_findFar_93 rfl rfl ?_
          | refine T_ialdN (pc1 := 96) (pc := 95) k_M_findFar_95 rfl (by first | exact ga G (by decide) rfl | assumption) (by omega) (by omega) (by first | assumption | (simp (disch := omega) only [pI_eq, pI_row, pI_col, va_up_self, va_up_ne, ne_eq, not_false_eq_true, hJN, h5, eo, et, hc1] <;> rfl) | rfl) ?_
          | refine T_iald (pc1 := 96) (pc := 95) k_M_findFar_95 rfl (by first | exact ga G (by decide) rfl | assumption) (by assumption) ?_
          | refine T_aload_n (pc1 := 97) (pc := 96) k_M_findFar_96 rfl rfl ?_
          | refine T_aload_nN (pc1 := 97) (pc := 96) k_M_findFar_96 rfl rfl ?_
          | refine T_getR (pc1 := 100) (pc := 97) k_M_findFar_97 rfl f_M_19 rfl (by first | exact ga G (by decide) rfl | assumption) (by first | exact gr G (by decide) rfl | assumption) ?_
          | refine T_iload_n (pc1 := 101) (pc := 100) k_M_findFar_100 rfl rfl ?_
          | refine T_ialdN (pc1 := 102) (pc := 101) k_M_findFar_101 rfl (by first | exact ga G (by decide) rfl | assumption) (by omega) (by omega) (by first | assumption | (simp (disch := omega) only [pI_eq, pI_row, pI_col, va_up_self, va_up_ne, ne_eq, not_false_eq_true, hJN, h5, eo, et, hc1] <;> rfl) | rfl) ?_
          | refine T_iald (pc1 := 102) (pc := 101) k_M_findFar_101 rfl (by first | exact ga G (by decide) rfl | assumption) (by assumption) ?_
          | with_reducible refine T_iaddN (pc1 := 103) (pc := 102) k_M_findFar_102 (by decide) ?_
          | refine T_iadd (pc1 := 103) (pc := 102) k_M_findFar_102 rfl ?_
          | refine T_mminV (pc1 := 106) (pc := 103) k_M_findFar_103 rfl l_M_82 (by decide) (Nat.le_of_ble_eq_true rfl) (by with_reducible rfl) (by with_reducible rfl) (by omega) (by omega) ?_
          | refine T_mmin (pc1 := 106) (pc := 103) k_M_findFar_103 rfl l_M_82 (by decide) (Nat.le_of_ble_eq_true rfl) ?_
          | refine T_iastN (pc1 := 107) (pc := 106) k_M_findFar_106 rfl (by first | exact ga G (by decide) rfl | assumption) (by omega) (by omega) ?_
          | refine T_aload_n (pc1 := 108) (pc := 107) k_M_findFar_107 rfl rfl ?_
          | refine T_aload_nN (pc1 := 108) (pc := 107) k_M_findFar_107 rfl rfl ?_
          | refine T_getR (pc1 := 111) (pc := 108) k_M_findFar_108 rfl f_M_22 rfl (by first | exact ga G (by decide) rfl | assumption) (by first | exact gr G (by decide) rfl | assumption) ?_
          | refine T_iload (pc1 := 113) (pc := 111) k_M_findFar_111 rfl rfl ?_
          | refine T_aload_n (pc1 := 114) (pc := 113) k_M_findFar_113 rfl rfl ?_
          | refine T_aload_nN (pc1 := 114) (pc := 113) k_M_findFar_113 rfl rfl ?_
          | refine T_getR (pc1 := 117) (pc := 114) k_M_findFar_114 rfl f_M_22 rfl (by first | exact ga G (by decide) rfl | assumption) (by first | exact gr G (by decide) rfl | assumption) ?_
          | refine T_iload (pc1 := 119) (pc := 117) k_M_findFar_117 rfl rfl ?_
          | refine T_ialdN (pc1 := 120) (pc := 119) k_M_findFar_119 rfl (by first | exact ga G (by decide) rfl | assumption) (by omega) (by omega) (by first | assumption | (simp (disch := omega) only [pI_eq, pI_row, pI_col, va_up_self, va_up_ne, ne_eq, not_false_eq_true, hJN, h5, eo, et, hc1] <;> rfl) | rfl) ?_
          | refine T_iald (pc1 := 120) (pc := 119) k_M_findFar_119 rfl (by first | exact ga G (by decide) rfl | assumption) (by assumption) ?_
          | refine T_aload_n (pc1 := 121) (pc := 120) k_M_findFar_120 rfl rfl ?_
          | refine T_aload_nN (pc1 := 121) (pc := 120) k_M_findFar_120 rfl rfl ?_
          | refine T_getR (pc1 := 124) (pc := 121) k_M_findFar_121 rfl f_M_22 rfl (by first | exact ga G (by decide) rfl | assumption) (by first | exact gr G (by decide) rfl | assumption) ?_
          | refine T_iload (pc1 := 126) (pc := 124) k_M_findFar_124 rfl rfl ?_
          | refine T_ialdN (pc1 := 127) (pc := 126) k_M_findFar_126 rfl (by first | exact ga G (by decide) rfl | assumption) (by omega) (by omega) (by first | assumption | (simp (disch := omega) only [pI_eq, pI_row, pI_col, va_up_self, va_up_ne, ne_eq, not_false_eq_true, hJN, h5, eo, et, hc1] <;> rfl) | rfl) ?_
          | refine T_iald (pc1 := 127) (pc := 126) k_M_findFar_126 rfl (by first | exact ga G (by decide) rfl | assumption) (by assumption) ?_
          | refine T_aload_n (pc1 := 128) (pc := 127) k_M_findFar_127 rfl rfl ?_
          | refine T_aload_nN (pc1 := 128) (pc := 127) k_M_findFar_127 rfl rfl ?_
          | refine T_getR (pc1 := 131) (pc := 128) k_M_findFar_128 rfl f_M_19 rfl (by first | exact ga G (by decide) rfl | assumption) (by first | exact gr G (by decide) rfl | assumption) ?_
          | refine T_iload_n (pc1 := 132) (pc := 131) k_M_findFar_131 rfl rfl ?_
          | refine T_ialdN (pc1 := 133) (pc := 132) k_M_findFar_132 rfl (by first | exact ga G (by decide) rfl | assumption) (by omega) (by omega) (by first | assumption | (simp (disch := omega) only [pI_eq, pI_row, pI_col, va_up_self, va_up_ne, ne_eq, not_false_eq_true, hJN, h5, eo, et, hc1] <;> rfl) | rfl) ?_
          | refine T_iald (pc1 := 133) (pc := 132) k_M_findFar_132 rfl (by first | exact ga G (by decide) rfl | assumption) (by assumption) ?_
          | with_reducible refine T_iaddN (pc1 := 134) (pc := 133) k_M_findFar_133 (by decide) ?_
          | refine T_iadd (pc1 := 134) (pc := 133) k_M_findFar_133 rfl ?_
          | refine T_mminV (pc1 := 137) (pc := 134) k_M_findFar_134 rfl l_M_82 (by decide) (Nat.le_of_ble_eq_true rfl) (by with_reducible rfl) (by with_reducible rfl) (by omega) (by omega) ?_
          | refine T_mmin (pc1 := 137) (pc := 134) k_M_findFar_134 rfl l_M_82 (by decide) (Nat.le_of_ble_eq_true rfl) ?_
          | refine T_iastN (pc1 := 138) (pc := 137) k_M_findFar_137 rfl (by first | exact ga G (by decide) rfl | assumption) (by omega) (by omega) ?_
          | refine T_iincN (b := 1) (pc1 := 141) (pc := 138) k_M_findFar_138 rfl rfl (by decide) ?_
          | refine T_iinc (v := (nI 1)) (pc1 := 141) (pc := 138) k_M_findFar_138 rfl rfl (by decide) ?_
          | refine T_goto (tgt := 41) (pc := 141) k_M_findFar_141 rfl ?_
          | refine T_iincN (b := 1) (pc1 := 147) (pc := 144) k_M_findFar_144 rfl rfl (by decide) ?_
          | refine T_iinc (v := (nI 1)) (pc1 := 147) (pc := 144) k_M_findFar_144 rfl rfl (by decide) ?_
          | refine T_goto (tgt := 33) (pc := 147) k_M_findFar_147 rfl ?_
          | refine T_retV (pc := 150) k_M_findFar_150 rfl ?_)
        refine ih _ _ _ (by omega) (eqx_pI (eqx_pI hJ _ (by decide)) _ (by decide)) (fun v hv8 => ?_) kx
        rw [pI_self, pI_self]
        by_cases hvt : v = t
        · subst hvt
          rw [va_up_self, rx_t hne hc0]
        · rw [va_up_ne _ _ hvt]
          by_cases hvo : v = o
          · subst hvo
            rw [va_up_self, rx_o hne hc0]
          · rw [va_up_ne _ _ hvo, rx_n hvo hvt]
            exact hv v hv8
  have outer : ∀ q r o3 o4 o5 (J : IM), r + q = 8 → eqx [106] I J → (∀ v, v < 8 → J 106 v = nI (rnds (ed N) c n (ini goal) r v)) → Rl 2 M_M_findFar 33 [some (.ref 101), some (.int (nI goal)), some (.int (nI r)), o3, o4, o5] [] g J K := by
    intro q
    induction q with
    | zero =>
      intro r o3 o4 o5 J hr hJ hv
      have hr : r = 8 := by omega
      subst hr
      repeat' (first
        | refine T_iconst (v := (nI 0)) (pc1 := 1) (pc := 0) k_M_findFar_0 rfl (by decide) ?_
        | refine T_istore_n (pc1 := 2) (pc := 1) k_M_findFar_1 rfl (Nat.le_of_ble_eq_true rfl) ?_
        | refine T_iload_n (pc1 := 3) (pc := 2) k_M_findFar_2 rfl rfl ?_
        | refine T_bipush (v := (nI 8)) (pc1 := 5) (pc := 3) k_M_findFar_3 rfl (by decide) ?_
        | (with_reducible refine T_icmp_geN (tgt := 31) (pc1 := 8) (pc := 5) k_M_findFar_5 (by decide) (by decide) (by omega) (by omega) (fun hc => ?_) (fun hc => ?_) <;> first | (exfalso; omega) | skip)
        | refine T_icmp_ge_t (tgt := 31) (pc := 5) k_M_findFar_5 rfl (by decide) ?_
        | refine T_icmp_ge_f (tgt := 31) (pc1 := 8) (pc := 5) k_M_findFar_5 rfl rfl (by decide) ?_
        | refine T_icmp_ge (tgt := 31) (pc1 := 8) (pc := 5) k_M_findFar_5 rfl rfl (fun hc => ?_) (fun hc => ?_)
        | refine T_aload_n (pc1 := 9) (pc := 8) k_M_findFar_8 rfl rfl ?_
        | refine T_aload_nN (pc1 := 9) (pc := 8) k_M_findFar_8 rfl rfl ?_
        | refine T_getR (pc1 := 12) (pc := 9) k_M_findFar_9 rfl f_M_22 rfl (by first | exact ga G (by decide) rfl | assumption) (by first | exact gr G (by decide) rfl | assumption) ?_
        | refine T_iload_n (pc1 := 13) (pc := 12) k_M_findFar_12 rfl rfl ?_
        | refine T_iload_n (pc1 := 14) (pc := 13) k_M_findFar_13 rfl rfl ?_
        | refine T_iload_n (pc1 := 15) (pc := 14) k_M_findFar_14 rfl rfl ?_
        | (with_reducible refine T_icmp_neN (tgt := 22) (pc1 := 18) (pc := 15) k_M_findFar_15 (by decide) (by decide) (by omega) (by omega) (fun hc => ?_) (fun hc => ?_) <;> first | (exfalso; omega) | skip)
        | refine T_icmp_ne_t (tgt := 22) (pc := 15) k_M_findFar_15 rfl (by decide) ?_
        | refine T_icmp_ne_f (tgt := 22) (pc1 := 18) (pc := 15) k_M_findFar_15 rfl rfl (by decide) ?_
        | refine T_icmp_ne (tgt := 22) (pc1 := 18) (pc := 15) k_M_findFar_15 rfl rfl (fun hc => ?_) (fun hc => ?_)
        | refine T_iconst (v := (nI 0)) (pc1 := 19) (pc := 18) k_M_findFar_18 rfl (by decide) ?_
        | refine T_goto (tgt := 24) (pc := 19) k_M_findFar_19 rfl ?_
        | refine T_ldc (v := (nI 1000000)) (pc1 := 24) (pc := 22) k_M_findFar_22 rfl c_M_163 ?_
        | refine T_iastN (pc1 := 25) (pc := 24) k_M_findFar_24 rfl (by first | exact ga G (by decide) rfl | assumption) (by omega) (by omega) ?_
        | refine T_iincN (b := 1) (pc1 := 28) (pc := 25) k_M_findFar_25 rfl rfl (by decide) ?_
        | refine T_iinc (v := (nI 1)) (pc1 := 28) (pc := 25) k_M_findFar_25 rfl rfl (by decide) ?_
        | refine T_goto (tgt := 2) (pc := 28) k_M_findFar_28 rfl ?_
        | refine T_iconst (v := (nI 0)) (pc1 := 32) (pc := 31) k_M_findFar_31 rfl (by decide) ?_
        | refine T_istore_n (pc1 := 33) (pc := 32) k_M_findFar_32 rfl (Nat.le_of_ble_eq_true rfl) ?_
        | refine T_iload_n (pc1 := 34) (pc := 33) k_M_findFar_33 rfl rfl ?_
        | refine T_bipush (v := (nI 8)) (pc1 := 36) (pc := 34) k_M_findFar_34 rfl (by decide) ?_
        | (with_reducible refine T_icmp_geN (tgt := 150) (pc1 := 39) (pc := 36) k_M_findFar_36 (by decide) (by decide) (by omega) (by omega) (fun hc => ?_) (fun hc => ?_) <;> first | (exfalso; omega) | skip)
        | refine T_icmp_ge_t (tgt := 150) (pc := 36) k_M_findFar_36 rfl (by decide) ?_
        | refine T_icmp_ge_f (tgt := 150) (pc1 := 39) (pc := 36) k_M_findFar_36 rfl rfl (by decide) ?_
        | refine T_icmp_ge (tgt := 150) (pc1 := 39) (pc := 36) k_M_findFar_36 rfl rfl (fun hc => ?_) (fun hc => ?_)
        | refine T_iconst (v := (nI 0)) (pc1 := 40) (pc := 39) k_M_findFar_39 rfl (by decide) ?_
        | refine T_istore_n (pc1 := 41) (pc := 40) k_M_findFar_40 rfl (Nat.le_of_ble_eq_true rfl) ?_
        | refine T_iload_n (pc1 := 42) (pc := 41) k_M_findFar_41 rfl rfl ?_
        | refine T_aload_n (pc1 := 43) (pc := 42) k_M_findFar_42 rfl rfl ?_
        | refine T_aload_nN (pc1 := 43) (pc := 42) k_M_findFar_42 rfl rfl ?_
        | refine T_getR (pc1 := 46) (pc := 43) k_M_findFar_43 rfl f_M_9 rfl (by first | exact ga G (by decide) rfl | assumption) (by first | exact gr G (by decide) rfl | assumption) ?_
        | refine T_iconst (v := (nI 5)) (pc1 := 47) (pc := 46) k_M_findFar_46 rfl (by decide) ?_
        | refine T_ialdN (pc1 := 48) (pc := 47) k_M_findFar_47 rfl (by first | exact ga G (by decide) rfl | assumption) (by omega) (by omega) (by first | assumption | (simp (disch := omega) only [pI_eq, pI_row, pI_col, va_up_self, va_up_ne, ne_eq, not_false_eq_true, hJN, h5, eo, et, hc1] <;> rfl) | rfl) ?_
        | refine T_iald (pc1 := 48) (pc := 47) k_M_findFar_47 rfl (by first | exact ga G (by decide) rfl | assumption) (by assumption) ?_
        | (with_reducible refine T_icmp_geN (tgt := 144) (pc1 := 51) (pc := 48) k_M_findFar_48 (by decide) (by decide) (by omega) (by omega) (fun hc => ?_) (fun hc => ?_) <;> first | (exfalso; omega) | skip)
        | refine T_icmp_ge_t (tgt := 144) (pc := 48) k_M_findFar_48 rfl (by decide) ?_
        | refine T_icmp_ge_f (tgt := 144) (pc1 := 51) (pc := 48) k_M_findFar_48 rfl rfl (by decide) ?_
        | refine T_icmp_ge (tgt := 144) (pc1 := 51) (pc := 48) k_M_findFar_48 rfl rfl (fun hc => ?_) (fun hc => ?_)
        | refine T_aload_n (pc1 := 52) (pc := 51) k_M_findFar_51 rfl rfl ?_
        | refine T_aload_nN (pc1 := 52) (pc := 51) k_M_findFar_51 rfl rfl ?_
        | refine T_iload_n (pc1 := 53) (pc := 52) k_M_findFar_52 rfl rfl ?_
        | refine T_iconst (v := (nI 1)) (pc1 := 54) (pc := 53) k_M_findFar_53 rfl (by decide) ?_
        | (refine T_cV (As := [_, _]) (d1 := 1) (pc1 := 57) (pc := 54) k_M_findFar_54 rfl (by decide) (Nat.le_of_ble_eq_true rfl) rfl o_M_bitIs l_M_124 rfl (by first | exact ga G (by decide) rfl | assumption) rfl (c_M_bitN G (by assumption) (by omega) (by omega) (by first | assumption | rfl) ?_) <;> try dsimp only [psh])
        | refine T_istore (pc1 := 59) (pc := 57) k_M_findFar_57 rfl (Nat.le_of_ble_eq_true rfl) ?_
        | refine T_aload_n (pc1 := 60) (pc := 59) k_M_findFar_59 rfl rfl ?_
        | refine T_aload_nN (pc1 := 60) (pc := 59) k_M_findFar_59 rfl rfl ?_
        | refine T_iload_n (pc1 := 61) (pc := 60) k_M_findFar_60 rfl rfl ?_
        | refine T_iconst (v := (nI 2)) (pc1 := 62) (pc := 61) k_M_findFar_61 rfl (by decide) ?_
        | (refine T_cV (As := [_, _]) (d1 := 1) (pc1 := 65) (pc := 62) k_M_findFar_62 rfl (by decide) (Nat.le_of_ble_eq_true rfl) rfl o_M_bitIs l_M_124 rfl (by first | exact ga G (by decide) rfl | assumption) rfl (c_M_bitN G (by assumption) (by omega) (by omega) (by first | assumption | rfl) ?_) <;> try dsimp only [psh])
        | refine T_istore (pc1 := 67) (pc := 65) k_M_findFar_65 rfl (Nat.le_of_ble_eq_true rfl) ?_
        | refine T_aload_n (pc1 := 68) (pc := 67) k_M_findFar_67 rfl rfl ?_
        | refine T_aload_nN (pc1 := 68) (pc := 67) k_M_findFar_67 rfl rfl ?_
        | refine T_getR (pc1 := 71) (pc := 68) k_M_findFar_68 rfl f_M_19 rfl (by first | exact ga G (by decide) rfl | assumption) (by first | exact gr G (by decide) rfl | assumption) ?_
        | refine T_iload_n (pc1 := 72) (pc := 71) k_M_findFar_71 rfl rfl ?_
        | refine T_ialdN (pc1 := 73) (pc := 72) k_M_findFar_72 rfl (by first | exact ga G (by decide) rfl | assumption) (by omega) (by omega) (by first | assumption | (simp (disch := omega) only [pI_eq, pI_row, pI_col, va_up_self, va_up_ne, ne_eq, not_false_eq_true, hJN, h5, eo, et, hc1] <;> rfl) | rfl) ?_
        | refine T_iald (pc1 := 73) (pc := 72) k_M_findFar_72 rfl (by first | exact ga G (by decide) rfl | assumption) (by assumption) ?_
        | (with_reducible refine T_if_leN (tgt := 138) (pc1 := 76) (pc := 73) k_M_findFar_73 (by decide) (by decide) (by omega) (fun hc => ?_) (fun hc => ?_) <;> first | (exfalso; omega) | skip)
        | refine T_if_le_t (tgt := 138) (pc := 73) k_M_findFar_73 rfl (by decide) ?_
        | refine T_if_le_f (tgt := 138) (pc1 := 76) (pc := 73) k_M_findFar_73 rfl rfl (by decide) ?_
        | refine T_if_le (tgt := 138) (pc1 := 76) (pc := 73) k_M_findFar_73 rfl rfl (fun hc => ?_) (fun hc => ?_)
        | refine T_aload_n (pc1 := 77) (pc := 76) k_M_findFar_76 rfl rfl ?_
        | refine T_aload_nN (pc1 := 77) (pc := 76) k_M_findFar_76 rfl rfl ?_
        | refine T_getR (pc1 := 80) (pc := 77) k_M_findFar_77 rfl f_M_22 rfl (by first | exact ga G (by decide) rfl | assumption) (by first | exact gr G (by decide) rfl | assumption) ?_
        | refine T_iload (pc1 := 82) (pc := 80) k_M_findFar_80 rfl rfl ?_
        | refine T_aload_n (pc1 := 83) (pc := 82) k_M_findFar_82 rfl rfl ?_
        | refine T_aload_nN (pc1 := 83) (pc := 82) k_M_findFar_82 rfl rfl ?_
        | refine T_getR (pc1 := 86) (pc := 83) k_M_findFar_83 rfl f_M_22 rfl (by first | exact ga G (by decide) rfl | assumption) (by first | exact gr G (by decide) rfl | assumption) ?_
        | refine T_iload (pc1 := 88) (pc := 86) k_M_findFar_86 rfl rfl ?_
        | refine T_ialdN (pc1 := 89) (pc := 88) k_M_findFar_88 rfl (by first | exact ga G (by decide) rfl | assumption) (by omega) (by omega) (by first | assumption | (simp (disch := omega) only [pI_eq, pI_row, pI_col, va_up_self, va_up_ne, ne_eq, not_false_eq_true, hJN, h5, eo, et, hc1] <;> rfl) | rfl) ?_
        | refine T_iald (pc1 := 89) (pc := 88) k_M_findFar_88 rfl (by first | exact ga G (by decide) rfl | assumption) (by assumption) ?_
        | refine T_aload_n (pc1 := 90) (pc := 89) k_M_findFar_89 rfl rfl ?_
        | refine T_aload_nN (pc1 := 90) (pc := 89) k_M_findFar_89 rfl rfl ?_
        | refine T_getR (pc1 := 93) (pc := 90) k_M_findFar_90 rfl f_M_22 rfl (by first | exact ga G (by decide) rfl | assumption) (by first | exact gr G (by decide) rfl | assumption) ?_
        | refine T_iload (pc1 := 95) (pc := 93) k_M_findFar_93 rfl rfl ?_
        | refine T_ialdN (pc1 := 96) (pc := 95) k_M_findFar_95 rfl (by first | exact ga G (by decide) rfl | assumption) (by omega) (by omega) (by first | assumption | (simp (disch := omega) only [pI_eq, pI_row, pI_col, va_up_self, va_up_ne, ne_eq, not_false_eq_true, hJN, h5, eo, et, hc1] <;> rfl) | rfl) ?_
        | refine T_iald (pc1 := 96) (pc := 95) k_M_findFar_95 rfl (by first | exact ga G (by decide) rfl | assumption) (by assumption) ?_
        | refine T_aload_n (pc1 := 97) (pc := 96) k_M_findFar_96 rfl rfl ?_
        | refine T_aload_nN (pc1 := 97) (pc := 96) k_M_findFar_96 rfl rfl ?_
        | refine T_getR (pc1 := 100) (pc := 97) k_M_findFar_97 rfl f_M_19 rfl (by first | exact ga G (by decide) rfl | assumption) (by first | exact gr G (by decide) rfl | assumption) ?_
        | refine T_iload_n (pc1 := 101) (pc := 100) k_M_findFar_100 rfl rfl ?_
        | refine T_ialdN (pc1 := 102) (pc := 101) k_M_findFar_101 rfl (by first | exact ga G (by decide) rfl | assumption) (by omega) (by omega) (by first | assumption | (simp (disch := omega) only [pI_eq, pI_row, pI_col, va_up_self, va_up_ne, ne_eq, not_false_eq_true, hJN, h5, eo, et, hc1] <;> rfl) | rfl) ?_
        | refine T_iald (pc1 := 102) (pc := 101) k_M_findFar_101 rfl (by first | exact ga G (by decide) rfl | assumption) (by assumption) ?_
        | with_reducible refine T_iaddN (pc1 := 103) (pc := 102) k_M_findFar_102 (by decide) ?_
        | refine T_iadd (pc1 := 103) (pc := 102) k_M_findFar_102 rfl ?_
        | refine T_mminV (pc1 := 106) (pc := 103) k_M_findFar_103 rfl l_M_82 (by decide) (Nat.le_of_ble_eq_true rfl) (by with_reducible rfl) (by with_reducible rfl) (by omega) (by omega) ?_
        | refine T_mmin (pc1 := 106) (pc := 103) k_M_findFar_103 rfl l_M_82 (by decide) (Nat.le_of_ble_eq_true rfl) ?_
        | refine T_iastN (pc1 := 107) (pc := 106) k_M_findFar_106 rfl (by first | exact ga G (by decide) rfl | assumption) (by omega) (by omega) ?_
        | refine T_aload_n (pc1 := 108) (pc := 107) k_M_findFar_107 rfl rfl ?_
        | refine T_aload_nN (pc1 := 108) (pc := 107) k_M_findFar_107 rfl rfl ?_
        | refine T_getR (pc1 := 111) (pc := 108) k_M_findFar_108 rfl f_M_22 rfl (by first | exact ga G (by decide) rfl | assumption) (by first | exact gr G (by decide) rfl | assumption) ?_
        | refine T_iload (pc1 := 113) (pc := 111) k_M_findFar_111 rfl rfl ?_
        | refine T_aload_n (pc1 := 114) (pc := 113) k_M_findFar_113 rfl rfl ?_
        | refine T_aload_nN (pc1 := 114) (pc := 113) k_M_findFar_113 rfl rfl ?_
        | refine T_getR (pc1 := 117) (pc := 114) k_M_findFar_114 rfl f_M_22 rfl (by first | exact ga G (by decide) rfl | assumption) (by first | exact gr G (by decide) rfl | assumption) ?_
        | refine T_iload (pc1 := 119) (pc := 117) k_M_findFar_117 rfl rfl ?_
        | refine T_ialdN (pc1 := 120) (pc := 119) k_M_findFar_119 rfl (by first | exact ga G (by decide) rfl | assumption) (by omega) (by omega) (by first | assumption | (simp (disch := omega) only [pI_eq, pI_row, pI_col, va_up_self, va_up_ne, ne_eq, not_false_eq_true, hJN, h5, eo, et, hc1] <;> rfl) | rfl) ?_
        | refine T_iald (pc1 := 120) (pc := 119) k_M_findFar_119 rfl (by first | exact ga G (by decide) rfl | assumption) (by assumption) ?_
        | refine T_aload_n (pc1 := 121) (pc := 120) k_M_findFar_120 rfl rfl ?_
        | refine T_aload_nN (pc1 := 121) (pc := 120) k_M_findFar_120 rfl rfl ?_
        | refine T_getR (pc1 := 124) (pc := 121) k_M_findFar_121 rfl f_M_22 rfl (by first | exact ga G (by decide) rfl | assumption) (by first | exact gr G (by decide) rfl | assumption) ?_
        | refine T_iload (pc1 := 126) (pc := 124) k_M_findFar_124 rfl rfl ?_
        | refine T_ialdN (pc1 := 127) (pc := 126) k_M_findFar_126 rfl (by first | exact ga G (by decide) rfl | assumption) (by omega) (by omega) (by first | assumption | (simp (disch := omega) only [pI_eq, pI_row, pI_col, va_up_self, va_up_ne, ne_eq, not_false_eq_true, hJN, h5, eo, et, hc1] <;> rfl) | rfl) ?_
        | refine T_iald (pc1 := 127) (pc := 126) k_M_findFar_126 rfl (by first | exact ga G (by decide) rfl | assumption) (by assumption) ?_
        | refine T_aload_n (pc1 := 128) (pc := 127) k_M_findFar_127 rfl rfl ?_
        | refine T_aload_nN (pc1 := 128) (pc := 127) k_M_findFar_127 rfl rfl ?_
        | refine T_getR (pc1 := 131) (pc := 128) k_M_findFar_128 rfl f_M_19 rfl (by first | exact ga G (by decide) rfl | assumption) (by first | exact gr G (by decide) rfl | assumption) ?_
        | refine T_iload_n (pc1 := 132) (pc := 131) k_M_findFar_131 rfl rfl ?_
        | refine T_ialdN (pc1 := 133) (pc := 132) k_M_findFar_132 rfl (by first | exact ga G (by decide) rfl | assumption) (by omega) (by omega) (by first | assumption | (simp (disch := omega) only [pI_eq, pI_row, pI_col, va_up_self, va_up_ne, ne_eq, not_false_eq_true, hJN, h5, eo, et, hc1] <;> rfl) | rfl) ?_
        | refine T_iald (pc1 := 133) (pc := 132) k_M_findFar_132 rfl (by first | exact ga G (by decide) rfl | assumption) (by assumption) ?_
        | with_reducible refine T_iaddN (pc1 := 134) (pc := 133) k_M_findFar_133 (by decide) ?_
        | refine T_iadd (pc1 := 134) (pc := 133) k_M_findFar_133 rfl ?_
        | refine T_mminV (pc1 := 137) (pc := 134) k_M_findFar_134 rfl l_M_82 (by decide) (Nat.le_of_ble_eq_true rfl) (by with_reducible rfl) (by with_reducible rfl) (by omega) (by omega) ?_
        | refine T_mmin (pc1 := 137) (pc := 134) k_M_findFar_134 rfl l_M_82 (by decide) (Nat.le_of_ble_eq_true rfl) ?_
        | refine T_iastN (pc1 := 138) (pc := 137) k_M_findFar_137 rfl (by first | exact ga G (by decide) rfl | assumption) (by omega) (by omega) ?_
        | refine T_iincN (b := 1) (pc1 := 141) (pc := 138) k_M_findFar_138 rfl rfl (by decide) ?_
        | refine T_iinc (v := (nI 1)) (pc1 := 141) (pc := 138) k_M_findFar_138 rfl rfl (by decide) ?_
        | refine T_goto (tgt := 41) (pc := 141) k_M_findFar_141 rfl ?_
        | refine T_iincN (b := 1) (pc1 := 147) (pc := 144) k_M_findFar_144 rfl rfl (by decide) ?_
        | refine T_iinc (v := (nI 1)) (pc1 := 147) (pc := 144) k_M_findFar_144 rfl rfl (by decide) ?_
        | refine T_goto (tgt := 33) (pc := 147) k_M_findFar_147 rfl ?_
        | refine T_retV (pc := 150) k_M_findFar_150 rfl ?_)
      exact kk J hJ hv
    | succ q ih =>
      intro r o3 o4 o5 J hr hJ hv
      refine T_iload_n (pc1 := 34) (pc := 33) k_M_findFar_33 rfl rfl ?_
      repeat' (first
        | refine T_iconst (v := (nI 0)) (pc1 := 1) (pc := 0) k_M_findFar_0 rfl (by decide) ?_
        | refine T_istore_n (pc1 := 2) (pc := 1) k_M_findFar_1 rfl (Nat.le_of_ble_eq_true rfl) ?_
        | refine T_iload_n (pc1 := 3) (pc := 2) k_M_findFar_2 rfl rfl ?_
        | refine T_bipush (v := (nI 8)) (pc1 := 5) (pc := 3) k_M_findFar_3 rfl (by decide) ?_
        | (with_reducible refine T_icmp_geN (tgt := 31) (pc1 := 8) (pc := 5) k_M_findFar_5 (by decide) (by decide) (by omega) (by omega) (fun hc => ?_) (fun hc => ?_) <;> first | (exfalso; omega) | skip)
        | refine T_icmp_ge_t (tgt := 31) (pc := 5) k_M_findFar_5 rfl (by decide) ?_
        | refine T_icmp_ge_f (tgt := 31) (pc1 := 8) (pc := 5) k_M_findFar_5 rfl rfl (by decide) ?_
        | refine T_icmp_ge (tgt := 31) (pc1 := 8) (pc := 5) k_M_findFar_5 rfl rfl (fun hc => ?_) (fun hc => ?_)
        | refine T_aload_n (pc1 := 9) (pc := 8) k_M_findFar_8 rfl rfl ?_
        | refine T_aload_nN (pc1 := 9) (pc := 8) k_M_findFar_8 rfl rfl ?_
        | refine T_getR (pc1 := 12) (pc := 9) k_M_findFar_9 rfl f_M_22 rfl (by first | exact ga G (by decide) rfl | assumption) (by first | exact gr G (by decide) rfl | assumption) ?_
        | refine T_iload_n (pc1 := 13) (pc := 12) k_M_findFar_12 rfl rfl ?_
        | refine T_iload_n (pc1 := 14) (pc := 13) k_M_findFar_13 rfl rfl ?_
        | refine T_iload_n (pc1 := 15) (pc := 14) k_M_findFar_14 rfl rfl ?_
        | (with_reducible refine T_icmp_neN (tgt := 22) (pc1 := 18) (pc := 15) k_M_findFar_15 (by decide) (by decide) (by omega) (by omega) (fun hc => ?_) (fun hc => ?_) <;> first | (exfalso; omega) | skip)
        | refine T_icmp_ne_t (tgt := 22) (pc := 15) k_M_findFar_15 rfl (by decide) ?_
        | refine T_icmp_ne_f (tgt := 22) (pc1 := 18) (pc := 15) k_M_findFar_15 rfl rfl (by decide) ?_
        | refine T_icmp_ne (tgt := 22) (pc1 := 18) (pc := 15) k_M_findFar_15 rfl rfl (fun hc => ?_) (fun hc => ?_)
        | refine T_iconst (v := (nI 0)) (pc1 := 19) (pc := 18) k_M_findFar_18 rfl (by decide) ?_
        | refine T_goto (tgt := 24) (pc := 19) k_M_findFar_19 rfl ?_
        | refine T_ldc (v := (nI 1000000)) (pc1 := 24) (pc := 22) k_M_findFar_22 rfl c_M_163 ?_
        | refine T_iastN (pc1 := 25) (pc := 24) k_M_findFar_24 rfl (by first | exact ga G (by decide) rfl | assumption) (by omega) (by omega) ?_
        | refine T_iincN (b := 1) (pc1 := 28) (pc := 25) k_M_findFar_25 rfl rfl (by decide) ?_
        | refine T_iinc (v := (nI 1)) (pc1 := 28) (pc := 25) k_M_findFar_25 rfl rfl (by decide) ?_
        | refine T_goto (tgt := 2) (pc := 28) k_M_findFar_28 rfl ?_
        | refine T_iconst (v := (nI 0)) (pc1 := 32) (pc := 31) k_M_findFar_31 rfl (by decide) ?_
        | refine T_istore_n (pc1 := 33) (pc := 32) k_M_findFar_32 rfl (Nat.le_of_ble_eq_true rfl) ?_
        | refine T_iload_n (pc1 := 34) (pc := 33) k_M_findFar_33 rfl rfl ?_
        | refine T_bipush (v := (nI 8)) (pc1 := 36) (pc := 34) k_M_findFar_34 rfl (by decide) ?_
        | (with_reducible refine T_icmp_geN (tgt := 150) (pc1 := 39) (pc := 36) k_M_findFar_36 (by decide) (by decide) (by omega) (by omega) (fun hc => ?_) (fun hc => ?_) <;> first | (exfalso; omega) | skip)
        | refine T_icmp_ge_t (tgt := 150) (pc := 36) k_M_findFar_36 rfl (by decide) ?_
        | refine T_icmp_ge_f (tgt := 150) (pc1 := 39) (pc := 36) k_M_findFar_36 rfl rfl (by decide) ?_
        | refine T_icmp_ge (tgt := 150) (pc1 := 39) (pc := 36) k_M_findFar_36 rfl rfl (fun hc => ?_) (fun hc => ?_)
        | refine T_iconst (v := (nI 0)) (pc1 := 40) (pc := 39) k_M_findFar_39 rfl (by decide) ?_
        | refine T_istore_n (pc1 := 41) (pc := 40) k_M_findFar_40 rfl (Nat.le_of_ble_eq_true rfl) ?_
        | refine T_aload_n (pc1 := 43) (pc := 42) k_M_findFar_42 rfl rfl ?_
        | refine T_aload_nN (pc1 := 43) (pc := 42) k_M_findFar_42 rfl rfl ?_
        | refine T_getR (pc1 := 46) (pc := 43) k_M_findFar_43 rfl f_M_9 rfl (by first | exact ga G (by decide) rfl | assumption) (by first | exact gr G (by decide) rfl | assumption) ?_
        | refine T_iconst (v := (nI 5)) (pc1 := 47) (pc := 46) k_M_findFar_46 rfl (by decide) ?_
        | refine T_ialdN (pc1 := 48) (pc := 47) k_M_findFar_47 rfl (by first | exact ga G (by decide) rfl | assumption) (by omega) (by omega) (by first | assumption | (simp (disch := omega) only [pI_eq, pI_row, pI_col, va_up_self, va_up_ne, ne_eq, not_false_eq_true, hJN, h5, eo, et, hc1] <;> rfl) | rfl) ?_
        | refine T_iald (pc1 := 48) (pc := 47) k_M_findFar_47 rfl (by first | exact ga G (by decide) rfl | assumption) (by assumption) ?_
        | (with_reducible refine T_icmp_geN (tgt := 144) (pc1 := 51) (pc := 48) k_M_findFar_48 (by decide) (by decide) (by omega) (by omega) (fun hc => ?_) (fun hc => ?_) <;> first | (exfalso; omega) | skip)
        | refine T_icmp_ge_t (tgt := 144) (pc := 48) k_M_findFar_48 rfl (by decide) ?_
        | refine T_icmp_ge_f (tgt := 144) (pc1 := 51) (pc := 48) k_M_findFar_48 rfl rfl (by decide) ?_
        | refine T_icmp_ge (tgt := 144) (pc1 := 51) (pc := 48) k_M_findFar_48 rfl rfl (fun hc => ?_) (fun hc => ?_)
        | refine T_aload_n (pc1 := 52) (pc := 51) k_M_findFar_51 rfl rfl ?_
        | refine T_aload_nN (pc1 := 52) (pc := 51) k_M_findFar_51 rfl rfl ?_
        | refine T_iload_n (pc1 := 53) (pc := 52) k_M_findFar_52 rfl rfl ?_
        | refine T_iconst (v := (nI 1)) (pc1 := 54) (pc := 53) k_M_findFar_53 rfl (by decide) ?_
        | (refine T_cV (As := [_, _]) (d1 := 1) (pc1 := 57) (pc := 54) k_M_findFar_54 rfl (by decide) (Nat.le_of_ble_eq_true rfl) rfl o_M_bitIs l_M_124 rfl (by first | exact ga G (by decide) rfl | assumption) rfl (c_M_bitN G (by assumption) (by omega) (by omega) (by first | assumption | rfl) ?_) <;> try dsimp only [psh])
        | refine T_istore (pc1 := 59) (pc := 57) k_M_findFar_57 rfl (Nat.le_of_ble_eq_true rfl) ?_
        | refine T_aload_n (pc1 := 60) (pc := 59) k_M_findFar_59 rfl rfl ?_
        | refine T_aload_nN (pc1 := 60) (pc := 59) k_M_findFar_59 rfl rfl ?_
        | refine T_iload_n (pc1 := 61) (pc := 60) k_M_findFar_60 rfl rfl ?_
        | refine T_iconst (v := (nI 2)) (pc1 := 62) (pc := 61) k_M_findFar_61 rfl (by decide) ?_
        | (refine T_cV (As := [_, _]) (d1 := 1) (pc1 := 65) (pc := 62) k_M_findFar_62 rfl (by decide) (Nat.le_of_ble_eq_true rfl) rfl o_M_bitIs l_M_124 rfl (by first | exact ga G (by decide) rfl | assumption) rfl (c_M_bitN G (by assumption) (by omega) (by omega) (by first | assumption | rfl) ?_) <;> try dsimp only [psh])
        | refine T_istore (pc1 := 67) (pc := 65) k_M_findFar_65 rfl (Nat.le_of_ble_eq_true rfl) ?_
        | refine T_aload_n (pc1 := 68) (pc := 67) k_M_findFar_67 rfl rfl ?_
        | refine T_aload_nN (pc1 := 68) (pc := 67) k_M_findFar_67 rfl rfl ?_
        | refine T_getR (pc1 := 71) (pc := 68) k_M_findFar_68 rfl f_M_19 rfl (by first | exact ga G (by decide) rfl | assumption) (by first | exact gr G (by decide) rfl | assumption) ?_
        | refine T_iload_n (pc1 := 72) (pc := 71) k_M_findFar_71 rfl rfl ?_
        | refine T_ialdN (pc1 := 73) (pc := 72) k_M_findFar_72 rfl (by first | exact ga G (by decide) rfl | assumption) (by omega) (by omega) (by first | assumption | (simp (disch := omega) only [pI_eq, pI_row, pI_col, va_up_self, va_up_ne, ne_eq, not_false_eq_true, hJN, h5, eo, et, hc1] <;> rfl) | rfl) ?_
        | refine T_iald (pc1 := 73) (pc := 72) k_M_findFar_72 rfl (by first | exact ga G (by decide) rfl | assumption) (by assumption) ?_
        | (with_reducible refine T_if_leN (tgt := 138) (pc1 := 76) (pc := 73) k_M_findFar_73 (by decide) (by decide) (by omega) (fun hc => ?_) (fun hc => ?_) <;> first | (exfalso; omega) | skip)
        | refine T_if_le_t (tgt := 138) (pc := 73) k_M_findFar_73 rfl (by decide) ?_
        | refine T_if_le_f (tgt := 138) (pc1 := 76) (pc := 73) k_M_findFar_73 rfl rfl (by decide) ?_
        | refine T_if_le (tgt := 138) (pc1 := 76) (pc := 73) k_M_findFar_73 rfl rfl (fun hc => ?_) (fun hc => ?_)
        | refine T_aload_n (pc1 := 77) (pc := 76) k_M_findFar_76 rfl rfl ?_
        | refine T_aload_nN (pc1 := 77) (pc := 76) k_M_findFar_76 rfl rfl ?_
        | refine T_getR (pc1 := 80) (pc := 77) k_M_findFar_77 rfl f_M_22 rfl (by first | exact ga G (by decide) rfl | assumption) (by first | exact gr G (by decide) rfl | assumption) ?_
        | refine T_iload (pc1 := 82) (pc := 80) k_M_findFar_80 rfl rfl ?_
        | refine T_aload_n (pc1 := 83) (pc := 82) k_M_findFar_82 rfl rfl ?_
        | refine T_aload_nN (pc1 := 83) (pc := 82) k_M_findFar_82 rfl rfl ?_
        | refine T_getR (pc1 := 86) (pc := 83) k_M_findFar_83 rfl f_M_22 rfl (by first | exact ga G (by decide) rfl | assumption) (by first | exact gr G (by decide) rfl | assumption) ?_
        | refine T_iload (pc1 := 88) (pc := 86) k_M_findFar_86 rfl rfl ?_
        | refine T_ialdN (pc1 := 89) (pc := 88) k_M_findFar_88 rfl (by first | exact ga G (by decide) rfl | assumption) (by omega) (by omega) (by first | assumption | (simp (disch := omega) only [pI_eq, pI_row, pI_col, va_up_self, va_up_ne, ne_eq, not_false_eq_true, hJN, h5, eo, et, hc1] <;> rfl) | rfl) ?_
        | refine T_iald (pc1 := 89) (pc := 88) k_M_findFar_88 rfl (by first | exact ga G (by decide) rfl | assumption) (by assumption) ?_
        | refine T_aload_n (pc1 := 90) (pc := 89) k_M_findFar_89 rfl rfl ?_
        | refine T_aload_nN (pc1 := 90) (pc := 89) k_M_findFar_89 rfl rfl ?_
        | refine T_getR (pc1 := 93) (pc := 90) k_M_findFar_90 rfl f_M_22 rfl (by first | exact ga G (by decide) rfl | assumption) (by first | exact gr G (by decide) rfl | assumption) ?_
        | refine T_iload (pc1 := 95) (pc := 93) k_M_findFar_93 rfl rfl ?_
        | refine T_ialdN (pc1 := 96) (pc := 95) k_M_findFar_95 rfl (by first | exact ga G (by decide) rfl | assumption) (by omega) (by omega) (by first | assumption | (simp (disch := omega) only [pI_eq, pI_row, pI_col, va_up_self, va_up_ne, ne_eq, not_false_eq_true, hJN, h5, eo, et, hc1] <;> rfl) | rfl) ?_
        | refine T_iald (pc1 := 96) (pc := 95) k_M_findFar_95 rfl (by first | exact ga G (by decide) rfl | assumption) (by assumption) ?_
        | refine T_aload_n (pc1 := 97) (pc := 96) k_M_findFar_96 rfl rfl ?_
        | refine T_aload_nN (pc1 := 97) (pc := 96) k_M_findFar_96 rfl rfl ?_
        | refine T_getR (pc1 := 100) (pc := 97) k_M_findFar_97 rfl f_M_19 rfl (by first | exact ga G (by decide) rfl | assumption) (by first | exact gr G (by decide) rfl | assumption) ?_
        | refine T_iload_n (pc1 := 101) (pc := 100) k_M_findFar_100 rfl rfl ?_
        | refine T_ialdN (pc1 := 102) (pc := 101) k_M_findFar_101 rfl (by first | exact ga G (by decide) rfl | assumption) (by omega) (by omega) (by first | assumption | (simp (disch := omega) only [pI_eq, pI_row, pI_col, va_up_self, va_up_ne, ne_eq, not_false_eq_true, hJN, h5, eo, et, hc1] <;> rfl) | rfl) ?_
        | refine T_iald (pc1 := 102) (pc := 101) k_M_findFar_101 rfl (by first | exact ga G (by decide) rfl | assumption) (by assumption) ?_
        | with_reducible refine T_iaddN (pc1 := 103) (pc := 102) k_M_findFar_102 (by decide) ?_
        | refine T_iadd (pc1 := 103) (pc := 102) k_M_findFar_102 rfl ?_
        | refine T_mminV (pc1 := 106) (pc := 103) k_M_findFar_103 rfl l_M_82 (by decide) (Nat.le_of_ble_eq_true rfl) (by with_reducible rfl) (by with_reducible rfl) (by omega) (by omega) ?_
        | refine T_mmin (pc1 := 106) (pc := 103) k_M_findFar_103 rfl l_M_82 (by decide) (Nat.le_of_ble_eq_true rfl) ?_
        | refine T_iastN (pc1 := 107) (pc := 106) k_M_findFar_106 rfl (by first | exact ga G (by decide) rfl | assumption) (by omega) (by omega) ?_
        | refine T_aload_n (pc1 := 108) (pc := 107) k_M_findFar_107 rfl rfl ?_
        | refine T_aload_nN (pc1 := 108) (pc := 107) k_M_findFar_107 rfl rfl ?_
        | refine T_getR (pc1 := 111) (pc := 108) k_M_findFar_108 rfl f_M_22 rfl (by first | exact ga G (by decide) rfl | assumption) (by first | exact gr G (by decide) rfl | assumption) ?_
        | refine T_iload (pc1 := 113) (pc := 111) k_M_findFar_111 rfl rfl ?_
        | refine T_aload_n (pc1 := 114) (pc := 113) k_M_findFar_113 rfl rfl ?_
        | refine T_aload_nN (pc1 := 114) (pc := 113) k_M_findFar_113 rfl rfl ?_
        | refine T_getR (pc1 := 117) (pc := 114) k_M_findFar_114 rfl f_M_22 rfl (by first | exact ga G (by decide) rfl | assumption) (by first | exact gr G (by decide) rfl | assumption) ?_
        | refine T_iload (pc1 := 119) (pc := 117) k_M_findFar_117 rfl rfl ?_
        | refine T_ialdN (pc1 := 120) (pc := 119) k_M_findFar_119 rfl (by first | exact ga G (by decide) rfl | assumption) (by omega) (by omega) (by first | assumption | (simp (disch := omega) only [pI_eq, pI_row, pI_col, va_up_self, va_up_ne, ne_eq, not_false_eq_true, hJN, h5, eo, et, hc1] <;> rfl) | rfl) ?_
        | refine T_iald (pc1 := 120) (pc := 119) k_M_findFar_119 rfl (by first | exact ga G (by decide) rfl | assumption) (by assumption) ?_
        | refine T_aload_n (pc1 := 121) (pc := 120) k_M_findFar_120 rfl rfl ?_
        | refine T_aload_nN (pc1 := 121) (pc := 120) k_M_findFar_120 rfl rfl ?_
        | refine T_getR (pc1 := 124) (pc := 121) k_M_findFar_121 rfl f_M_22 rfl (by first | exact ga G (by decide) rfl | assumption) (by first | exact gr G (by decide) rfl | assumption) ?_
        | refine T_iload (pc1 := 126) (pc := 124) k_M_findFar_124 rfl rfl ?_
        | refine T_ialdN (pc1 := 127) (pc := 126) k_M_findFar_126 rfl (by first | exact ga G (by decide) rfl | assumption) (by omega) (by omega) (by first | assumption | (simp (disch := omega) only [pI_eq, pI_row, pI_col, va_up_self, va_up_ne, ne_eq, not_false_eq_true, hJN, h5, eo, et, hc1] <;> rfl) | rfl) ?_
        | refine T_iald (pc1 := 127) (pc := 126) k_M_findFar_126 rfl (by first | exact ga G (by decide) rfl | assumption) (by assumption) ?_
        | refine T_aload_n (pc1 := 128) (pc := 127) k_M_findFar_127 rfl rfl ?_
        | refine T_aload_nN (pc1 := 128) (pc := 127) k_M_findFar_127 rfl rfl ?_
        | refine T_getR (pc1 := 131) (pc := 128) k_M_findFar_128 rfl f_M_19 rfl (by first | exact ga G (by decide) rfl | assumption) (by first | exact gr G (by decide) rfl | assumption) ?_
        | refine T_iload_n (pc1 := 132) (pc := 131) k_M_findFar_131 rfl rfl ?_
        | refine T_ialdN (pc1 := 133) (pc := 132) k_M_findFar_132 rfl (by first | exact ga G (by decide) rfl | assumption) (by omega) (by omega) (by first | assumption | (simp (disch := omega) only [pI_eq, pI_row, pI_col, va_up_self, va_up_ne, ne_eq, not_false_eq_true, hJN, h5, eo, et, hc1] <;> rfl) | rfl) ?_
        | refine T_iald (pc1 := 133) (pc := 132) k_M_findFar_132 rfl (by first | exact ga G (by decide) rfl | assumption) (by assumption) ?_
        | with_reducible refine T_iaddN (pc1 := 134) (pc := 133) k_M_findFar_133 (by decide) ?_
        | refine T_iadd (pc1 := 134) (pc := 133) k_M_findFar_133 rfl ?_
        | refine T_mminV (pc1 := 137) (pc := 134) k_M_findFar_134 rfl l_M_82 (by decide) (Nat.le_of_ble_eq_true rfl) (by with_reducible rfl) (by with_reducible rfl) (by omega) (by omega) ?_
        | refine T_mmin (pc1 := 137) (pc := 134) k_M_findFar_134 rfl l_M_82 (by decide) (Nat.le_of_ble_eq_true rfl) ?_
        | refine T_iastN (pc1 := 138) (pc := 137) k_M_findFar_137 rfl (by first | exact ga G (by decide) rfl | assumption) (by omega) (by omega) ?_
        | refine T_iincN (b := 1) (pc1 := 141) (pc := 138) k_M_findFar_138 rfl rfl (by decide) ?_
        | refine T_iinc (v := (nI 1)) (pc1 := 141) (pc := 138) k_M_findFar_138 rfl rfl (by decide) ?_
        | refine T_goto (tgt := 41) (pc := 141) k_M_findFar_141 rfl ?_
        | refine T_iincN (b := 1) (pc1 := 147) (pc := 144) k_M_findFar_144 rfl rfl (by decide) ?_
        | refine T_iinc (v := (nI 1)) (pc1 := 147) (pc := 144) k_M_findFar_144 rfl rfl (by decide) ?_
        | refine T_goto (tgt := 33) (pc := 147) k_M_findFar_147 rfl ?_
        | refine T_retV (pc := 150) k_M_findFar_150 rfl ?_)
      refine inner n 0 r _ _ J (by omega) hJ hv (fun o4 o5 J hJ hv => ?_)
      repeat' (first
        | refine T_iconst (v := (nI 0)) (pc1 := 1) (pc := 0) k_M_findFar_0 rfl (by decide) ?_
        | refine T_istore_n (pc1 := 2) (pc := 1) k_M_findFar_1 rfl (Nat.le_of_ble_eq_true rfl) ?_
        | refine T_iload_n (pc1 := 3) (pc := 2) k_M_findFar_2 rfl rfl ?_
        | refine T_bipush (v := (nI 8)) (pc1 := 5) (pc := 3) k_M_findFar_3 rfl (by decide) ?_
        | (with_reducible refine T_icmp_geN (tgt := 31) (pc1 := 8) (pc := 5) k_M_findFar_5 (by decide) (by decide) (by omega) (by omega) (fun hc => ?_) (fun hc => ?_) <;> first | (exfalso; omega) | skip)
        | refine T_icmp_ge_t (tgt := 31) (pc := 5) k_M_findFar_5 rfl (by decide) ?_
        | refine T_icmp_ge_f (tgt := 31) (pc1 := 8) (pc := 5) k_M_findFar_5 rfl rfl (by decide) ?_
        | refine T_icmp_ge (tgt := 31) (pc1 := 8) (pc := 5) k_M_findFar_5 rfl rfl (fun hc => ?_) (fun hc => ?_)
        | refine T_aload_n (pc1 := 9) (pc := 8) k_M_findFar_8 rfl rfl ?_
        | refine T_aload_nN (pc1 := 9) (pc := 8) k_M_findFar_8 rfl rfl ?_
        | refine T_getR (pc1 := 12) (pc := 9) k_M_findFar_9 rfl f_M_22 rfl (by first | exact ga G (by decide) rfl | assumption) (by first | exact gr G (by decide) rfl | assumption) ?_
        | refine T_iload_n (pc1 := 13) (pc := 12) k_M_findFar_12 rfl rfl ?_
        | refine T_iload_n (pc1 := 14) (pc := 13) k_M_findFar_13 rfl rfl ?_
        | refine T_iload_n (pc1 := 15) (pc := 14) k_M_findFar_14 rfl rfl ?_
        | (with_reducible refine T_icmp_neN (tgt := 22) (pc1 := 18) (pc := 15) k_M_findFar_15 (by decide) (by decide) (by omega) (by omega) (fun hc => ?_) (fun hc => ?_) <;> first | (exfalso; omega) | skip)
        | refine T_icmp_ne_t (tgt := 22) (pc := 15) k_M_findFar_15 rfl (by decide) ?_
        | refine T_icmp_ne_f (tgt := 22) (pc1 := 18) (pc := 15) k_M_findFar_15 rfl rfl (by decide) ?_
        | refine T_icmp_ne (tgt := 22) (pc1 := 18) (pc := 15) k_M_findFar_15 rfl rfl (fun hc => ?_) (fun hc => ?_)
        | refine T_iconst (v := (nI 0)) (pc1 := 19) (pc := 18) k_M_findFar_18 rfl (by decide) ?_
        | refine T_goto (tgt := 24) (pc := 19) k_M_findFar_19 rfl ?_
        | refine T_ldc (v := (nI 1000000)) (pc1 := 24) (pc := 22) k_M_findFar_22 rfl c_M_163 ?_
        | refine T_iastN (pc1 := 25) (pc := 24) k_M_findFar_24 rfl (by first | exact ga G (by decide) rfl | assumption) (by omega) (by omega) ?_
        | refine T_iincN (b := 1) (pc1 := 28) (pc := 25) k_M_findFar_25 rfl rfl (by decide) ?_
        | refine T_iinc (v := (nI 1)) (pc1 := 28) (pc := 25) k_M_findFar_25 rfl rfl (by decide) ?_
        | refine T_goto (tgt := 2) (pc := 28) k_M_findFar_28 rfl ?_
        | refine T_iconst (v := (nI 0)) (pc1 := 32) (pc := 31) k_M_findFar_31 rfl (by decide) ?_
        | refine T_istore_n (pc1 := 33) (pc := 32) k_M_findFar_32 rfl (Nat.le_of_ble_eq_true rfl) ?_
        | refine T_bipush (v := (nI 8)) (pc1 := 36) (pc := 34) k_M_findFar_34 rfl (by decide) ?_
        | (with_reducible refine T_icmp_geN (tgt := 150) (pc1 := 39) (pc := 36) k_M_findFar_36 (by decide) (by decide) (by omega) (by omega) (fun hc => ?_) (fun hc => ?_) <;> first | (exfalso; omega) | skip)
        | refine T_icmp_ge_t (tgt := 150) (pc := 36) k_M_findFar_36 rfl (by decide) ?_
        | refine T_icmp_ge_f (tgt := 150) (pc1 := 39) (pc := 36) k_M_findFar_36 rfl rfl (by decide) ?_
        | refine T_icmp_ge (tgt := 150) (pc1 := 39) (pc := 36) k_M_findFar_36 rfl rfl (fun hc => ?_) (fun hc => ?_)
        | refine T_iconst (v := (nI 0)) (pc1 := 40) (pc := 39) k_M_findFar_39 rfl (by decide) ?_
        | refine T_istore_n (pc1 := 41) (pc := 40) k_M_findFar_40 rfl (Nat.le_of_ble_eq_true rfl) ?_
        | refine T_iload_n (pc1 := 42) (pc := 41) k_M_findFar_41 rfl rfl ?_
        | refine T_aload_n (pc1 := 43) (pc := 42) k_M_findFar_42 rfl rfl ?_
        | refine T_aload_nN (pc1 := 43) (pc := 42) k_M_findFar_42 rfl rfl ?_
        | refine T_getR (pc1 := 46) (pc := 43) k_M_findFar_43 rfl f_M_9 rfl (by first | exact ga G (by decide) rfl | assumption) (by first | exact gr G (by decide) rfl | assumption) ?_
        | refine T_iconst (v := (nI 5)) (pc1 := 47) (pc := 46) k_M_findFar_46 rfl (by decide) ?_
        | refine T_ialdN (pc1 := 48) (pc := 47) k_M_findFar_47 rfl (by first | exact ga G (by decide) rfl | assumption) (by omega) (by omega) (by first | assumption | (simp (disch := omega) only [pI_eq, pI_row, pI_col, va_up_self, va_up_ne, ne_eq, not_false_eq_true, hJN, h5, eo, et, hc1] <;> rfl) | rfl) ?_
        | refine T_iald (pc1 := 48) (pc := 47) k_M_findFar_47 rfl (by first | exact ga G (by decide) rfl | assumption) (by assumption) ?_
        | (with_reducible refine T_icmp_geN (tgt := 144) (pc1 := 51) (pc := 48) k_M_findFar_48 (by decide) (by decide) (by omega) (by omega) (fun hc => ?_) (fun hc => ?_) <;> first | (exfalso; omega) | skip)
        | refine T_icmp_ge_t (tgt := 144) (pc := 48) k_M_findFar_48 rfl (by decide) ?_
        | refine T_icmp_ge_f (tgt := 144) (pc1 := 51) (pc := 48) k_M_findFar_48 rfl rfl (by decide) ?_
        | refine T_icmp_ge (tgt := 144) (pc1 := 51) (pc := 48) k_M_findFar_48 rfl rfl (fun hc => ?_) (fun hc => ?_)
        | refine T_aload_n (pc1 := 52) (pc := 51) k_M_findFar_51 rfl rfl ?_
        | refine T_aload_nN (pc1 := 52) (pc := 51) k_M_findFar_51 rfl rfl ?_
        | refine T_iload_n (pc1 := 53) (pc := 52) k_M_findFar_52 rfl rfl ?_
        | refine T_iconst (v := (nI 1)) (pc1 := 54) (pc := 53) k_M_findFar_53 rfl (by decide) ?_
        | (refine T_cV (As := [_, _]) (d1 := 1) (pc1 := 57) (pc := 54) k_M_findFar_54 rfl (by decide) (Nat.le_of_ble_eq_true rfl) rfl o_M_bitIs l_M_124 rfl (by first | exact ga G (by decide) rfl | assumption) rfl (c_M_bitN G (by assumption) (by omega) (by omega) (by first | assumption | rfl) ?_) <;> try dsimp only [psh])
        | refine T_istore (pc1 := 59) (pc := 57) k_M_findFar_57 rfl (Nat.le_of_ble_eq_true rfl) ?_
        | refine T_aload_n (pc1 := 60) (pc := 59) k_M_findFar_59 rfl rfl ?_
        | refine T_aload_nN (pc1 := 60) (pc := 59) k_M_findFar_59 rfl rfl ?_
        | refine T_iload_n (pc1 := 61) (pc := 60) k_M_findFar_60 rfl rfl ?_
        | refine T_iconst (v := (nI 2)) (pc1 := 62) (pc := 61) k_M_findFar_61 rfl (by decide) ?_
        | (refine T_cV (As := [_, _]) (d1 := 1) (pc1 := 65) (pc := 62) k_M_findFar_62 rfl (by decide) (Nat.le_of_ble_eq_true rfl) rfl o_M_bitIs l_M_124 rfl (by first | exact ga G (by decide) rfl | assumption) rfl (c_M_bitN G (by assumption) (by omega) (by omega) (by first | assumption | rfl) ?_) <;> try dsimp only [psh])
        | refine T_istore (pc1 := 67) (pc := 65) k_M_findFar_65 rfl (Nat.le_of_ble_eq_true rfl) ?_
        | refine T_aload_n (pc1 := 68) (pc := 67) k_M_findFar_67 rfl rfl ?_
        | refine T_aload_nN (pc1 := 68) (pc := 67) k_M_findFar_67 rfl rfl ?_
        | refine T_getR (pc1 := 71) (pc := 68) k_M_findFar_68 rfl f_M_19 rfl (by first | exact ga G (by decide) rfl | assumption) (by first | exact gr G (by decide) rfl | assumption) ?_
        | refine T_iload_n (pc1 := 72) (pc := 71) k_M_findFar_71 rfl rfl ?_
        | refine T_ialdN (pc1 := 73) (pc := 72) k_M_findFar_72 rfl (by first | exact ga G (by decide) rfl | assumption) (by omega) (by omega) (by first | assumption | (simp (disch := omega) only [pI_eq, pI_row, pI_col, va_up_self, va_up_ne, ne_eq, not_false_eq_true, hJN, h5, eo, et, hc1] <;> rfl) | rfl) ?_
        | refine T_iald (pc1 := 73) (pc := 72) k_M_findFar_72 rfl (by first | exact ga G (by decide) rfl | assumption) (by assumption) ?_
        | (with_reducible refine T_if_leN (tgt := 138) (pc1 := 76) (pc := 73) k_M_findFar_73 (by decide) (by decide) (by omega) (fun hc => ?_) (fun hc => ?_) <;> first | (exfalso; omega) | skip)
        | refine T_if_le_t (tgt := 138) (pc := 73) k_M_findFar_73 rfl (by decide) ?_
        | refine T_if_le_f (tgt := 138) (pc1 := 76) (pc := 73) k_M_findFar_73 rfl rfl (by decide) ?_
        | refine T_if_le (tgt := 138) (pc1 := 76) (pc := 73) k_M_findFar_73 rfl rfl (fun hc => ?_) (fun hc => ?_)
        | refine T_aload_n (pc1 := 77) (pc := 76) k_M_findFar_76 rfl rfl ?_
        | refine T_aload_nN (pc1 := 77) (pc := 76) k_M_findFar_76 rfl rfl ?_
        | refine T_getR (pc1 := 80) (pc := 77) k_M_findFar_77 rfl f_M_22 rfl (by first | exact ga G (by decide) rfl | assumption) (by first | exact gr G (by decide) rfl | assumption) ?_
        | refine T_iload (pc1 := 82) (pc := 80) k_M_findFar_80 rfl rfl ?_
        | refine T_aload_n (pc1 := 83) (pc := 82) k_M_findFar_82 rfl rfl ?_
        | refine T_aload_nN (pc1 := 83) (pc := 82) k_M_findFar_82 rfl rfl ?_
        | refine T_getR (pc1 := 86) (pc := 83) k_M_findFar_83 rfl f_M_22 rfl (by first | exact ga G (by decide) rfl | assumption) (by first | exact gr G (by decide) rfl | assumption) ?_
        | refine T_iload (pc1 := 88) (pc := 86) k_M_findFar_86 rfl rfl ?_
        | refine T_ialdN (pc1 := 89) (pc := 88) k_M_findFar_88 rfl (by first | exact ga G (by decide) rfl | assumption) (by omega) (by omega) (by first | assumption | (simp (disch := omega) only [pI_eq, pI_row, pI_col, va_up_self, va_up_ne, ne_eq, not_false_eq_true, hJN, h5, eo, et, hc1] <;> rfl) | rfl) ?_
        | refine T_iald (pc1 := 89) (pc := 88) k_M_findFar_88 rfl (by first | exact ga G (by decide) rfl | assumption) (by assumption) ?_
        | refine T_aload_n (pc1 := 90) (pc := 89) k_M_findFar_89 rfl rfl ?_
        | refine T_aload_nN (pc1 := 90) (pc := 89) k_M_findFar_89 rfl rfl ?_
        | refine T_getR (pc1 := 93) (pc := 90) k_M_findFar_90 rfl f_M_22 rfl (by first | exact ga G (by decide) rfl | assumption) (by first | exact gr G (by decide) rfl | assumption) ?_
        | refine T_iload (pc1 := 95) (pc := 93) k_M_findFar_93 rfl rfl ?_
        | refine T_ialdN (pc1 := 96) (pc := 95) k_M_findFar_95 rfl (by first | exact ga G (by decide) rfl | assumption) (by omega) (by omega) (by first | assumption | (simp (disch := omega) only [pI_eq, pI_row, pI_col, va_up_self, va_up_ne, ne_eq, not_false_eq_true, hJN, h5, eo, et, hc1] <;> rfl) | rfl) ?_
        | refine T_iald (pc1 := 96) (pc := 95) k_M_findFar_95 rfl (by first | exact ga G (by decide) rfl | assumption) (by assumption) ?_
        | refine T_aload_n (pc1 := 97) (pc := 96) k_M_findFar_96 rfl rfl ?_
        | refine T_aload_nN (pc1 := 97) (pc := 96) k_M_findFar_96 rfl rfl ?_
        | refine T_getR (pc1 := 100) (pc := 97) k_M_findFar_97 rfl f_M_19 rfl (by first | exact ga G (by decide) rfl | assumption) (by first | exact gr G (by decide) rfl | assumption) ?_
        | refine T_iload_n (pc1 := 101) (pc := 100) k_M_findFar_100 rfl rfl ?_
        | refine T_ialdN (pc1 := 102) (pc := 101) k_M_findFar_101 rfl (by first | exact ga G (by decide) rfl | assumption) (by omega) (by omega) (by first | assumption | (simp (disch := omega) only [pI_eq, pI_row, pI_col, va_up_self, va_up_ne, ne_eq, not_false_eq_true, hJN, h5, eo, et, hc1] <;> rfl) | rfl) ?_
        | refine T_iald (pc1 := 102) (pc := 101) k_M_findFar_101 rfl (by first | exact ga G (by decide) rfl | assumption) (by assumption) ?_
        | with_reducible refine T_iaddN (pc1 := 103) (pc := 102) k_M_findFar_102 (by decide) ?_
        | refine T_iadd (pc1 := 103) (pc := 102) k_M_findFar_102 rfl ?_
        | refine T_mminV (pc1 := 106) (pc := 103) k_M_findFar_103 rfl l_M_82 (by decide) (Nat.le_of_ble_eq_true rfl) (by with_reducible rfl) (by with_reducible rfl) (by omega) (by omega) ?_
        | refine T_mmin (pc1 := 106) (pc := 103) k_M_findFar_103 rfl l_M_82 (by decide) (Nat.le_of_ble_eq_true rfl) ?_
        | refine T_iastN (pc1 := 107) (pc := 106) k_M_findFar_106 rfl (by first | exact ga G (by decide) rfl | assumption) (by omega) (by omega) ?_
        | refine T_aload_n (pc1 := 108) (pc := 107) k_M_findFar_107 rfl rfl ?_
        | refine T_aload_nN (pc1 := 108) (pc := 107) k_M_findFar_107 rfl rfl ?_
        | refine T_getR (pc1 := 111) (pc := 108) k_M_findFar_108 rfl f_M_22 rfl (by first | exact ga G (by decide) rfl | assumption) (by first | exact gr G (by decide) rfl | assumption) ?_
        | refine T_iload (pc1 := 113) (pc := 111) k_M_findFar_111 rfl rfl ?_
        | refine T_aload_n (pc1 := 114) (pc := 113) k_M_findFar_113 rfl rfl ?_
        | refine T_aload_nN (pc1 := 114) (pc := 113) k_M_findFar_113 rfl rfl ?_
        | refine T_getR (pc1 := 117) (pc := 114) k_M_findFar_114 rfl f_M_22 rfl (by first | exact ga G (by decide) rfl | assumption) (by first | exact gr G (by decide) rfl | assumption) ?_
        | refine T_iload (pc1 := 119) (pc := 117) k_M_findFar_117 rfl rfl ?_
        | refine T_ialdN (pc1 := 120) (pc := 119) k_M_findFar_119 rfl (by first | exact ga G (by decide) rfl | assumption) (by omega) (by omega) (by first | assumption | (simp (disch := omega) only [pI_eq, pI_row, pI_col, va_up_self, va_up_ne, ne_eq, not_false_eq_true, hJN, h5, eo, et, hc1] <;> rfl) | rfl) ?_
        | refine T_iald (pc1 := 120) (pc := 119) k_M_findFar_119 rfl (by first | exact ga G (by decide) rfl | assumption) (by assumption) ?_
        | refine T_aload_n (pc1 := 121) (pc := 120) k_M_findFar_120 rfl rfl ?_
        | refine T_aload_nN (pc1 := 121) (pc := 120) k_M_findFar_120 rfl rfl ?_
        | refine T_getR (pc1 := 124) (pc := 121) k_M_findFar_121 rfl f_M_22 rfl (by first | exact ga G (by decide) rfl | assumption) (by first | exact gr G (by decide) rfl | assumption) ?_
        | refine T_iload (pc1 := 126) (pc := 124) k_M_findFar_124 rfl rfl ?_
        | refine T_ialdN (pc1 := 127) (pc := 126) k_M_findFar_126 rfl (by first | exact ga G (by decide) rfl | assumption) (by omega) (by omega) (by first | assumption | (simp (disch := omega) only [pI_eq, pI_row, pI_col, va_up_self, va_up_ne, ne_eq, not_false_eq_true, hJN, h5, eo, et, hc1] <;> rfl) | rfl) ?_
        | refine T_iald (pc1 := 127) (pc := 126) k_M_findFar_126 rfl (by first | exact ga G (by decide) rfl | assumption) (by assumption) ?_
        | refine T_aload_n (pc1 := 128) (pc := 127) k_M_findFar_127 rfl rfl ?_
        | refine T_aload_nN (pc1 := 128) (pc := 127) k_M_findFar_127 rfl rfl ?_
        | refine T_getR (pc1 := 131) (pc := 128) k_M_findFar_128 rfl f_M_19 rfl (by first | exact ga G (by decide) rfl | assumption) (by first | exact gr G (by decide) rfl | assumption) ?_
        | refine T_iload_n (pc1 := 132) (pc := 131) k_M_findFar_131 rfl rfl ?_
        | refine T_ialdN (pc1 := 133) (pc := 132) k_M_findFar_132 rfl (by first | exact ga G (by decide) rfl | assumption) (by omega) (by omega) (by first | assumption | (simp (disch := omega) only [pI_eq, pI_row, pI_col, va_up_self, va_up_ne, ne_eq, not_false_eq_true, hJN, h5, eo, et, hc1] <;> rfl) | rfl) ?_
        | refine T_iald (pc1 := 133) (pc := 132) k_M_findFar_132 rfl (by first | exact ga G (by decide) rfl | assumption) (by assumption) ?_
        | with_reducible refine T_iaddN (pc1 := 134) (pc := 133) k_M_findFar_133 (by decide) ?_
        | refine T_iadd (pc1 := 134) (pc := 133) k_M_findFar_133 rfl ?_
        | refine T_mminV (pc1 := 137) (pc := 134) k_M_findFar_134 rfl l_M_82 (by decide) (Nat.le_of_ble_eq_true rfl) (by with_reducible rfl) (by with_reducible rfl) (by omega) (by omega) ?_
        | refine T_mmin (pc1 := 137) (pc := 134) k_M_findFar_134 rfl l_M_82 (by decide) (Nat.le_of_ble_eq_true rfl) ?_
        | refine T_iastN (pc1 := 138) (pc := 137) k_M_findFar_137 rfl (by first | exact ga G (by decide) rfl | assumption) (by omega) (by omega) ?_
        | refine T_iincN (b := 1) (pc1 := 141) (pc := 138) k_M_findFar_138 rfl rfl (by decide) ?_
        | refine T_iinc (v := (nI 1)) (pc1 := 141) (pc := 138) k_M_findFar_138 rfl rfl (by decide) ?_
        | refine T_goto (tgt := 41) (pc := 141) k_M_findFar_141 rfl ?_
        | refine T_iincN (b := 1) (pc1 := 147) (pc := 144) k_M_findFar_144 rfl rfl (by decide) ?_
        | refine T_iinc (v := (nI 1)) (pc1 := 147) (pc := 144) k_M_findFar_144 rfl rfl (by decide) ?_
        | refine T_goto (tgt := 33) (pc := 147) k_M_findFar_147 rfl ?_
        | refine T_retV (pc := 150) k_M_findFar_150 rfl ?_)
      exact ih (r + 1) _ _ _ J (by omega) hJ hv
  have first : ∀ q s (J : IM), s + q = 8 → eqx [106] I J → (∀ v, v < s → J 106 v = nI (ini goal v)) → Rl 2 M_M_findFar 2 [some (.ref 101), some (.int (nI goal)), some (.int (nI s)), none, none, none] [] g J K := by
    intro q
    induction q with
    | zero =>
      intro s J hs hJ hv
      have hs : s = 8 := by omega
      subst hs
      repeat' (first
        | refine T_iconst (v := (nI 0)) (pc1 := 1) (pc := 0) k_M_findFar_0 rfl (by decide) ?_
        | refine T_istore_n (pc1 := 2) (pc := 1) k_M_findFar_1 rfl (Nat.le_of_ble_eq_true rfl) ?_
        | refine T_iload_n (pc1 := 3) (pc := 2) k_M_findFar_2 rfl rfl ?_
        | refine T_bipush (v := (nI 8)) (pc1 := 5) (pc := 3) k_M_findFar_3 rfl (by decide) ?_
        | (with_reducible refine T_icmp_geN (tgt := 31) (pc1 := 8) (pc := 5) k_M_findFar_5 (by decide) (by decide) (by omega) (by omega) (fun hc => ?_) (fun hc => ?_) <;> first | (exfalso; omega) | skip)
        | refine T_icmp_ge_t (tgt := 31) (pc := 5) k_M_findFar_5 rfl (by decide) ?_
        | refine T_icmp_ge_f (tgt := 31) (pc1 := 8) (pc := 5) k_M_findFar_5 rfl rfl (by decide) ?_
        | refine T_icmp_ge (tgt := 31) (pc1 := 8) (pc := 5) k_M_findFar_5 rfl rfl (fun hc => ?_) (fun hc => ?_)
        | refine T_aload_n (pc1 := 9) (pc := 8) k_M_findFar_8 rfl rfl ?_
        | refine T_aload_nN (pc1 := 9) (pc := 8) k_M_findFar_8 rfl rfl ?_
        | refine T_getR (pc1 := 12) (pc := 9) k_M_findFar_9 rfl f_M_22 rfl (by first | exact ga G (by decide) rfl | assumption) (by first | exact gr G (by decide) rfl | assumption) ?_
        | refine T_iload_n (pc1 := 13) (pc := 12) k_M_findFar_12 rfl rfl ?_
        | refine T_iload_n (pc1 := 14) (pc := 13) k_M_findFar_13 rfl rfl ?_
        | refine T_iload_n (pc1 := 15) (pc := 14) k_M_findFar_14 rfl rfl ?_
        | (with_reducible refine T_icmp_neN (tgt := 22) (pc1 := 18) (pc := 15) k_M_findFar_15 (by decide) (by decide) (by omega) (by omega) (fun hc => ?_) (fun hc => ?_) <;> first | (exfalso; omega) | skip)
        | refine T_icmp_ne_t (tgt := 22) (pc := 15) k_M_findFar_15 rfl (by decide) ?_
        | refine T_icmp_ne_f (tgt := 22) (pc1 := 18) (pc := 15) k_M_findFar_15 rfl rfl (by decide) ?_
        | refine T_icmp_ne (tgt := 22) (pc1 := 18) (pc := 15) k_M_findFar_15 rfl rfl (fun hc => ?_) (fun hc => ?_)
        | refine T_iconst (v := (nI 0)) (pc1 := 19) (pc := 18) k_M_findFar_18 rfl (by decide) ?_
        | refine T_goto (tgt := 24) (pc := 19) k_M_findFar_19 rfl ?_
        | refine T_ldc (v := (nI 1000000)) (pc1 := 24) (pc := 22) k_M_findFar_22 rfl c_M_163 ?_
        | refine T_iastN (pc1 := 25) (pc := 24) k_M_findFar_24 rfl (by first | exact ga G (by decide) rfl | assumption) (by omega) (by omega) ?_
        | refine T_iincN (b := 1) (pc1 := 28) (pc := 25) k_M_findFar_25 rfl rfl (by decide) ?_
        | refine T_iinc (v := (nI 1)) (pc1 := 28) (pc := 25) k_M_findFar_25 rfl rfl (by decide) ?_
        | refine T_goto (tgt := 2) (pc := 28) k_M_findFar_28 rfl ?_
        | refine T_iconst (v := (nI 0)) (pc1 := 32) (pc := 31) k_M_findFar_31 rfl (by decide) ?_
        | refine T_istore_n (pc1 := 33) (pc := 32) k_M_findFar_32 rfl (Nat.le_of_ble_eq_true rfl) ?_
        | refine T_bipush (v := (nI 8)) (pc1 := 36) (pc := 34) k_M_findFar_34 rfl (by decide) ?_
        | (with_reducible refine T_icmp_geN (tgt := 150) (pc1 := 39) (pc := 36) k_M_findFar_36 (by decide) (by decide) (by omega) (by omega) (fun hc => ?_) (fun hc => ?_) <;> first | (exfalso; omega) | skip)
        | refine T_icmp_ge_t (tgt := 150) (pc := 36) k_M_findFar_36 rfl (by decide) ?_
        | refine T_icmp_ge_f (tgt := 150) (pc1 := 39) (pc := 36) k_M_findFar_36 rfl rfl (by decide) ?_
        | refine T_icmp_ge (tgt := 150) (pc1 := 39) (pc := 36) k_M_findFar_36 rfl rfl (fun hc => ?_) (fun hc => ?_)
        | refine T_iconst (v := (nI 0)) (pc1 := 40) (pc := 39) k_M_findFar_39 rfl (by decide) ?_
        | refine T_istore_n (pc1 := 41) (pc := 40) k_M_findFar_40 rfl (Nat.le_of_ble_eq_true rfl) ?_
        | refine T_iload_n (pc1 := 42) (pc := 41) k_M_findFar_41 rfl rfl ?_
        | refine T_aload_n (pc1 := 43) (pc := 42) k_M_findFar_42 rfl rfl ?_
        | refine T_aload_nN (pc1 := 43) (pc := 42) k_M_findFar_42 rfl rfl ?_
        | refine T_getR (pc1 := 46) (pc := 43) k_M_findFar_43 rfl f_M_9 rfl (by first | exact ga G (by decide) rfl | assumption) (by first | exact gr G (by decide) rfl | assumption) ?_
        | refine T_iconst (v := (nI 5)) (pc1 := 47) (pc := 46) k_M_findFar_46 rfl (by decide) ?_
        | refine T_ialdN (pc1 := 48) (pc := 47) k_M_findFar_47 rfl (by first | exact ga G (by decide) rfl | assumption) (by omega) (by omega) (by first | assumption | (simp (disch := omega) only [pI_eq, pI_row, pI_col, va_up_self, va_up_ne, ne_eq, not_false_eq_true, hJN, h5, eo, et, hc1] <;> rfl) | rfl) ?_
        | refine T_iald (pc1 := 48) (pc := 47) k_M_findFar_47 rfl (by first | exact ga G (by decide) rfl | assumption) (by assumption) ?_
        | (with_reducible refine T_icmp_geN (tgt := 144) (pc1 := 51) (pc := 48) k_M_findFar_48 (by decide) (by decide) (by omega) (by omega) (fun hc => ?_) (fun hc => ?_) <;> first | (exfalso; omega) | skip)
        | refine T_icmp_ge_t (tgt := 144) (pc := 48) k_M_findFar_48 rfl (by decide) ?_
        | refine T_icmp_ge_f (tgt := 144) (pc1 := 51) (pc := 48) k_M_findFar_48 rfl rfl (by decide) ?_
        | refine T_icmp_ge (tgt := 144) (pc1 := 51) (pc := 48) k_M_findFar_48 rfl rfl (fun hc => ?_) (fun hc => ?_)
        | refine T_aload_n (pc1 := 52) (pc := 51) k_M_findFar_51 rfl rfl ?_
        | refine T_aload_nN (pc1 := 52) (pc := 51) k_M_findFar_51 rfl rfl ?_
        | refine T_iload_n (pc1 := 53) (pc := 52) k_M_findFar_52 rfl rfl ?_
        | refine T_iconst (v := (nI 1)) (pc1 := 54) (pc := 53) k_M_findFar_53 rfl (by decide) ?_
        | (refine T_cV (As := [_, _]) (d1 := 1) (pc1 := 57) (pc := 54) k_M_findFar_54 rfl (by decide) (Nat.le_of_ble_eq_true rfl) rfl o_M_bitIs l_M_124 rfl (by first | exact ga G (by decide) rfl | assumption) rfl (c_M_bitN G (by assumption) (by omega) (by omega) (by first | assumption | rfl) ?_) <;> try dsimp only [psh])
        | refine T_istore (pc1 := 59) (pc := 57) k_M_findFar_57 rfl (Nat.le_of_ble_eq_true rfl) ?_
        | refine T_aload_n (pc1 := 60) (pc := 59) k_M_findFar_59 rfl rfl ?_
        | refine T_aload_nN (pc1 := 60) (pc := 59) k_M_findFar_59 rfl rfl ?_
        | refine T_iload_n (pc1 := 61) (pc := 60) k_M_findFar_60 rfl rfl ?_
        | refine T_iconst (v := (nI 2)) (pc1 := 62) (pc := 61) k_M_findFar_61 rfl (by decide) ?_
        | (refine T_cV (As := [_, _]) (d1 := 1) (pc1 := 65) (pc := 62) k_M_findFar_62 rfl (by decide) (Nat.le_of_ble_eq_true rfl) rfl o_M_bitIs l_M_124 rfl (by first | exact ga G (by decide) rfl | assumption) rfl (c_M_bitN G (by assumption) (by omega) (by omega) (by first | assumption | rfl) ?_) <;> try dsimp only [psh])
        | refine T_istore (pc1 := 67) (pc := 65) k_M_findFar_65 rfl (Nat.le_of_ble_eq_true rfl) ?_
        | refine T_aload_n (pc1 := 68) (pc := 67) k_M_findFar_67 rfl rfl ?_
        | refine T_aload_nN (pc1 := 68) (pc := 67) k_M_findFar_67 rfl rfl ?_
        | refine T_getR (pc1 := 71) (pc := 68) k_M_findFar_68 rfl f_M_19 rfl (by first | exact ga G (by decide) rfl | assumption) (by first | exact gr G (by decide) rfl | assumption) ?_
        | refine T_iload_n (pc1 := 72) (pc := 71) k_M_findFar_71 rfl rfl ?_
        | refine T_ialdN (pc1 := 73) (pc := 72) k_M_findFar_72 rfl (by first | exact ga G (by decide) rfl | assumption) (by omega) (by omega) (by first | assumption | (simp (disch := omega) only [pI_eq, pI_row, pI_col, va_up_self, va_up_ne, ne_eq, not_false_eq_true, hJN, h5, eo, et, hc1] <;> rfl) | rfl) ?_
        | refine T_iald (pc1 := 73) (pc := 72) k_M_findFar_72 rfl (by first | exact ga G (by decide) rfl | assumption) (by assumption) ?_
        | (with_reducible refine T_if_leN (tgt := 138) (pc1 := 76) (pc := 73) k_M_findFar_73 (by decide) (by decide) (by omega) (fun hc => ?_) (fun hc => ?_) <;> first | (exfalso; omega) | skip)
        | refine T_if_le_t (tgt := 138) (pc := 73) k_M_findFar_73 rfl (by decide) ?_
        | refine T_if_le_f (tgt := 138) (pc1 := 76) (pc := 73) k_M_findFar_73 rfl rfl (by decide) ?_
        | refine T_if_le (tgt := 138) (pc1 := 76) (pc := 73) k_M_findFar_73 rfl rfl (fun hc => ?_) (fun hc => ?_)
        | refine T_aload_n (pc1 := 77) (pc := 76) k_M_findFar_76 rfl rfl ?_
        | refine T_aload_nN (pc1 := 77) (pc := 76) k_M_findFar_76 rfl rfl ?_
        | refine T_getR (pc1 := 80) (pc := 77) k_M_findFar_77 rfl f_M_22 rfl (by first | exact ga G (by decide) rfl | assumption) (by first | exact gr G (by decide) rfl | assumption) ?_
        | refine T_iload (pc1 := 82) (pc := 80) k_M_findFar_80 rfl rfl ?_
        | refine T_aload_n (pc1 := 83) (pc := 82) k_M_findFar_82 rfl rfl ?_
        | refine T_aload_nN (pc1 := 83) (pc := 82) k_M_findFar_82 rfl rfl ?_
        | refine T_getR (pc1 := 86) (pc := 83) k_M_findFar_83 rfl f_M_22 rfl (by first | exact ga G (by decide) rfl | assumption) (by first | exact gr G (by decide) rfl | assumption) ?_
        | refine T_iload (pc1 := 88) (pc := 86) k_M_findFar_86 rfl rfl ?_
        | refine T_ialdN (pc1 := 89) (pc := 88) k_M_findFar_88 rfl (by first | exact ga G (by decide) rfl | assumption) (by omega) (by omega) (by first | assumption | (simp (disch := omega) only [pI_eq, pI_row, pI_col, va_up_self, va_up_ne, ne_eq, not_false_eq_true, hJN, h5, eo, et, hc1] <;> rfl) | rfl) ?_
        | refine T_iald (pc1 := 89) (pc := 88) k_M_findFar_88 rfl (by first | exact ga G (by decide) rfl | assumption) (by assumption) ?_
        | refine T_aload_n (pc1 := 90) (pc := 89) k_M_findFar_89 rfl rfl ?_
        | refine T_aload_nN (pc1 := 90) (pc := 89) k_M_findFar_89 rfl rfl ?_
        | refine T_getR (pc1 := 93) (pc := 90) k_M_findFar_90 rfl f_M_22 rfl (by first | exact ga G (by decide) rfl | assumption) (by first | exact gr G (by decide) rfl | assumption) ?_
        | refine T_iload (pc1 := 95) (pc := 93) k_M_findFar_93 rfl rfl ?_
        | refine T_ialdN (pc1 := 96) (pc := 95) k_M_findFar_95 rfl (by first | exact ga G (by decide) rfl | assumption) (by omega) (by omega) (by first | assumption | (simp (disch := omega) only [pI_eq, pI_row, pI_col, va_up_self, va_up_ne, ne_eq, not_false_eq_true, hJN, h5, eo, et, hc1] <;> rfl) | rfl) ?_
        | refine T_iald (pc1 := 96) (pc := 95) k_M_findFar_95 rfl (by first | exact ga G (by decide) rfl | assumption) (by assumption) ?_
        | refine T_aload_n (pc1 := 97) (pc := 96) k_M_findFar_96 rfl rfl ?_
        | refine T_aload_nN (pc1 := 97) (pc := 96) k_M_findFar_96 rfl rfl ?_
        | refine T_getR (pc1 := 100) (pc := 97) k_M_findFar_97 rfl f_M_19 rfl (by first | exact ga G (by decide) rfl | assumption) (by first | exact gr G (by decide) rfl | assumption) ?_
        | refine T_iload_n (pc1 := 101) (pc := 100) k_M_findFar_100 rfl rfl ?_
        | refine T_ialdN (pc1 := 102) (pc := 101) k_M_findFar_101 rfl (by first | exact ga G (by decide) rfl | assumption) (by omega) (by omega) (by first | assumption | (simp (disch := omega) only [pI_eq, pI_row, pI_col, va_up_self, va_up_ne, ne_eq, not_false_eq_true, hJN, h5, eo, et, hc1] <;> rfl) | rfl) ?_
        | refine T_iald (pc1 := 102) (pc := 101) k_M_findFar_101 rfl (by first | exact ga G (by decide) rfl | assumption) (by assumption) ?_
        | with_reducible refine T_iaddN (pc1 := 103) (pc := 102) k_M_findFar_102 (by decide) ?_
        | refine T_iadd (pc1 := 103) (pc := 102) k_M_findFar_102 rfl ?_
        | refine T_mminV (pc1 := 106) (pc := 103) k_M_findFar_103 rfl l_M_82 (by decide) (Nat.le_of_ble_eq_true rfl) (by with_reducible rfl) (by with_reducible rfl) (by omega) (by omega) ?_
        | refine T_mmin (pc1 := 106) (pc := 103) k_M_findFar_103 rfl l_M_82 (by decide) (Nat.le_of_ble_eq_true rfl) ?_
        | refine T_iastN (pc1 := 107) (pc := 106) k_M_findFar_106 rfl (by first | exact ga G (by decide) rfl | assumption) (by omega) (by omega) ?_
        | refine T_aload_n (pc1 := 108) (pc := 107) k_M_findFar_107 rfl rfl ?_
        | refine T_aload_nN (pc1 := 108) (pc := 107) k_M_findFar_107 rfl rfl ?_
        | refine T_getR (pc1 := 111) (pc := 108) k_M_findFar_108 rfl f_M_22 rfl (by first | exact ga G (by decide) rfl | assumption) (by first | exact gr G (by decide) rfl | assumption) ?_
        | refine T_iload (pc1 := 113) (pc := 111) k_M_findFar_111 rfl rfl ?_
        | refine T_aload_n (pc1 := 114) (pc := 113) k_M_findFar_113 rfl rfl ?_
        | refine T_aload_nN (pc1 := 114) (pc := 113) k_M_findFar_113 rfl rfl ?_
        | refine T_getR (pc1 := 117) (pc := 114) k_M_findFar_114 rfl f_M_22 rfl (by first | exact ga G (by decide) rfl | assumption) (by first | exact gr G (by decide) rfl | assumption) ?_
        | refine T_iload (pc1 := 119) (pc := 117) k_M_findFar_117 rfl rfl ?_
        | refine T_ialdN (pc1 := 120) (pc := 119) k_M_findFar_119 rfl (by first | exact ga G (by decide) rfl | assumption) (by omega) (by omega) (by first | assumption | (simp (disch := omega) only [pI_eq, pI_row, pI_col, va_up_self, va_up_ne, ne_eq, not_false_eq_true, hJN, h5, eo, et, hc1] <;> rfl) | rfl) ?_
        | refine T_iald (pc1 := 120) (pc := 119) k_M_findFar_119 rfl (by first | exact ga G (by decide) rfl | assumption) (by assumption) ?_
        | refine T_aload_n (pc1 := 121) (pc := 120) k_M_findFar_120 rfl rfl ?_
        | refine T_aload_nN (pc1 := 121) (pc := 120) k_M_findFar_120 rfl rfl ?_
        | refine T_getR (pc1 := 124) (pc := 121) k_M_findFar_121 rfl f_M_22 rfl (by first | exact ga G (by decide) rfl | assumption) (by first | exact gr G (by decide) rfl | assumption) ?_
        | refine T_iload (pc1 := 126) (pc := 124) k_M_findFar_124 rfl rfl ?_
        | refine T_ialdN (pc1 := 127) (pc := 126) k_M_findFar_126 rfl (by first | exact ga G (by decide) rfl | assumption) (by omega) (by omega) (by first | assumption | (simp (disch := omega) only [pI_eq, pI_row, pI_col, va_up_self, va_up_ne, ne_eq, not_false_eq_true, hJN, h5, eo, et, hc1] <;> rfl) | rfl) ?_
        | refine T_iald (pc1 := 127) (pc := 126) k_M_findFar_126 rfl (by first | exact ga G (by decide) rfl | assumption) (by assumption) ?_
        | refine T_aload_n (pc1 := 128) (pc := 127) k_M_findFar_127 rfl rfl ?_
        | refine T_aload_nN (pc1 := 128) (pc := 127) k_M_findFar_127 rfl rfl ?_
        | refine T_getR (pc1 := 131) (pc := 128) k_M_findFar_128 rfl f_M_19 rfl (by first | exact ga G (by decide) rfl | assumption) (by first | exact gr G (by decide) rfl | assumption) ?_
        | refine T_iload_n (pc1 := 132) (pc := 131) k_M_findFar_131 rfl rfl ?_
        | refine T_ialdN (pc1 := 133) (pc := 132) k_M_findFar_132 rfl (by first | exact ga G (by decide) rfl | assumption) (by omega) (by omega) (by first | assumption | (simp (disch := omega) only [pI_eq, pI_row, pI_col, va_up_self, va_up_ne, ne_eq, not_false_eq_true, hJN, h5, eo, et, hc1] <;> rfl) | rfl) ?_
        | refine T_iald (pc1 := 133) (pc := 132) k_M_findFar_132 rfl (by first | exact ga G (by decide) rfl | assumption) (by assumption) ?_
        | with_reducible refine T_iaddN (pc1 := 134) (pc := 133) k_M_findFar_133 (by decide) ?_
        | refine T_iadd (pc1 := 134) (pc := 133) k_M_findFar_133 rfl ?_
        | refine T_mminV (pc1 := 137) (pc := 134) k_M_findFar_134 rfl l_M_82 (by decide) (Nat.le_of_ble_eq_true rfl) (by with_reducible rfl) (by with_reducible rfl) (by omega) (by omega) ?_
        | refine T_mmin (pc1 := 137) (pc := 134) k_M_findFar_134 rfl l_M_82 (by decide) (Nat.le_of_ble_eq_true rfl) ?_
        | refine T_iastN (pc1 := 138) (pc := 137) k_M_findFar_137 rfl (by first | exact ga G (by decide) rfl | assumption) (by omega) (by omega) ?_
        | refine T_iincN (b := 1) (pc1 := 141) (pc := 138) k_M_findFar_138 rfl rfl (by decide) ?_
        | refine T_iinc (v := (nI 1)) (pc1 := 141) (pc := 138) k_M_findFar_138 rfl rfl (by decide) ?_
        | refine T_goto (tgt := 41) (pc := 141) k_M_findFar_141 rfl ?_
        | refine T_iincN (b := 1) (pc1 := 147) (pc := 144) k_M_findFar_144 rfl rfl (by decide) ?_
        | refine T_iinc (v := (nI 1)) (pc1 := 147) (pc := 144) k_M_findFar_144 rfl rfl (by decide) ?_
        | refine T_goto (tgt := 33) (pc := 147) k_M_findFar_147 rfl ?_
        | refine T_retV (pc := 150) k_M_findFar_150 rfl ?_)
      exact outer 8 0 _ _ _ J (by omega) hJ hv
    | succ q ih =>
      intro s J hs hJ hv
      refine T_iload_n (pc1 := 3) (pc := 2) k_M_findFar_2 rfl rfl ?_
      repeat' (first
        | refine T_iconst (v := (nI 0)) (pc1 := 1) (pc := 0) k_M_findFar_0 rfl (by decide) ?_
        | refine T_istore_n (pc1 := 2) (pc := 1) k_M_findFar_1 rfl (Nat.le_of_ble_eq_true rfl) ?_
        | refine T_bipush (v := (nI 8)) (pc1 := 5) (pc := 3) k_M_findFar_3 rfl (by decide) ?_
        | (with_reducible refine T_icmp_geN (tgt := 31) (pc1 := 8) (pc := 5) k_M_findFar_5 (by decide) (by decide) (by omega) (by omega) (fun hc => ?_) (fun hc => ?_) <;> first | (exfalso; omega) | skip)
        | refine T_icmp_ge_t (tgt := 31) (pc := 5) k_M_findFar_5 rfl (by decide) ?_
        | refine T_icmp_ge_f (tgt := 31) (pc1 := 8) (pc := 5) k_M_findFar_5 rfl rfl (by decide) ?_
        | refine T_icmp_ge (tgt := 31) (pc1 := 8) (pc := 5) k_M_findFar_5 rfl rfl (fun hc => ?_) (fun hc => ?_)
        | refine T_aload_n (pc1 := 9) (pc := 8) k_M_findFar_8 rfl rfl ?_
        | refine T_aload_nN (pc1 := 9) (pc := 8) k_M_findFar_8 rfl rfl ?_
        | refine T_getR (pc1 := 12) (pc := 9) k_M_findFar_9 rfl f_M_22 rfl (by first | exact ga G (by decide) rfl | assumption) (by first | exact gr G (by decide) rfl | assumption) ?_
        | refine T_iload_n (pc1 := 13) (pc := 12) k_M_findFar_12 rfl rfl ?_
        | refine T_iload_n (pc1 := 14) (pc := 13) k_M_findFar_13 rfl rfl ?_
        | refine T_iload_n (pc1 := 15) (pc := 14) k_M_findFar_14 rfl rfl ?_
        | (with_reducible refine T_icmp_neN (tgt := 22) (pc1 := 18) (pc := 15) k_M_findFar_15 (by decide) (by decide) (by omega) (by omega) (fun hc => ?_) (fun hc => ?_) <;> first | (exfalso; omega) | skip)
        | refine T_icmp_ne_t (tgt := 22) (pc := 15) k_M_findFar_15 rfl (by decide) ?_
        | refine T_icmp_ne_f (tgt := 22) (pc1 := 18) (pc := 15) k_M_findFar_15 rfl rfl (by decide) ?_
        | refine T_icmp_ne (tgt := 22) (pc1 := 18) (pc := 15) k_M_findFar_15 rfl rfl (fun hc => ?_) (fun hc => ?_)
        | refine T_iconst (v := (nI 0)) (pc1 := 19) (pc := 18) k_M_findFar_18 rfl (by decide) ?_
        | refine T_goto (tgt := 24) (pc := 19) k_M_findFar_19 rfl ?_
        | refine T_ldc (v := (nI 1000000)) (pc1 := 24) (pc := 22) k_M_findFar_22 rfl c_M_163 ?_
        | refine T_iastN (pc1 := 25) (pc := 24) k_M_findFar_24 rfl (by first | exact ga G (by decide) rfl | assumption) (by omega) (by omega) ?_
        | refine T_iincN (b := 1) (pc1 := 28) (pc := 25) k_M_findFar_25 rfl rfl (by decide) ?_
        | refine T_iinc (v := (nI 1)) (pc1 := 28) (pc := 25) k_M_findFar_25 rfl rfl (by decide) ?_
        | refine T_goto (tgt := 2) (pc := 28) k_M_findFar_28 rfl ?_
        | refine T_iconst (v := (nI 0)) (pc1 := 32) (pc := 31) k_M_findFar_31 rfl (by decide) ?_
        | refine T_istore_n (pc1 := 33) (pc := 32) k_M_findFar_32 rfl (Nat.le_of_ble_eq_true rfl) ?_
        | refine T_iload_n (pc1 := 34) (pc := 33) k_M_findFar_33 rfl rfl ?_
        | refine T_bipush (v := (nI 8)) (pc1 := 36) (pc := 34) k_M_findFar_34 rfl (by decide) ?_
        | (with_reducible refine T_icmp_geN (tgt := 150) (pc1 := 39) (pc := 36) k_M_findFar_36 (by decide) (by decide) (by omega) (by omega) (fun hc => ?_) (fun hc => ?_) <;> first | (exfalso; omega) | skip)
        | refine T_icmp_ge_t (tgt := 150) (pc := 36) k_M_findFar_36 rfl (by decide) ?_
        | refine T_icmp_ge_f (tgt := 150) (pc1 := 39) (pc := 36) k_M_findFar_36 rfl rfl (by decide) ?_
        | refine T_icmp_ge (tgt := 150) (pc1 := 39) (pc := 36) k_M_findFar_36 rfl rfl (fun hc => ?_) (fun hc => ?_)
        | refine T_iconst (v := (nI 0)) (pc1 := 40) (pc := 39) k_M_findFar_39 rfl (by decide) ?_
        | refine T_istore_n (pc1 := 41) (pc := 40) k_M_findFar_40 rfl (Nat.le_of_ble_eq_true rfl) ?_
        | refine T_iload_n (pc1 := 42) (pc := 41) k_M_findFar_41 rfl rfl ?_
        | refine T_aload_n (pc1 := 43) (pc := 42) k_M_findFar_42 rfl rfl ?_
        | refine T_aload_nN (pc1 := 43) (pc := 42) k_M_findFar_42 rfl rfl ?_
        | refine T_getR (pc1 := 46) (pc := 43) k_M_findFar_43 rfl f_M_9 rfl (by first | exact ga G (by decide) rfl | assumption) (by first | exact gr G (by decide) rfl | assumption) ?_
        | refine T_iconst (v := (nI 5)) (pc1 := 47) (pc := 46) k_M_findFar_46 rfl (by decide) ?_
        | refine T_ialdN (pc1 := 48) (pc := 47) k_M_findFar_47 rfl (by first | exact ga G (by decide) rfl | assumption) (by omega) (by omega) (by first | assumption | (simp (disch := omega) only [pI_eq, pI_row, pI_col, va_up_self, va_up_ne, ne_eq, not_false_eq_true, hJN, h5, eo, et, hc1] <;> rfl) | rfl) ?_
        | refine T_iald (pc1 := 48) (pc := 47) k_M_findFar_47 rfl (by first | exact ga G (by decide) rfl | assumption) (by assumption) ?_
        | (with_reducible refine T_icmp_geN (tgt := 144) (pc1 := 51) (pc := 48) k_M_findFar_48 (by decide) (by decide) (by omega) (by omega) (fun hc => ?_) (fun hc => ?_) <;> first | (exfalso; omega) | skip)
        | refine T_icmp_ge_t (tgt := 144) (pc := 48) k_M_findFar_48 rfl (by decide) ?_
        | refine T_icmp_ge_f (tgt := 144) (pc1 := 51) (pc := 48) k_M_findFar_48 rfl rfl (by decide) ?_
        | refine T_icmp_ge (tgt := 144) (pc1 := 51) (pc := 48) k_M_findFar_48 rfl rfl (fun hc => ?_) (fun hc => ?_)
        | refine T_aload_n (pc1 := 52) (pc := 51) k_M_findFar_51 rfl rfl ?_
        | refine T_aload_nN (pc1 := 52) (pc := 51) k_M_findFar_51 rfl rfl ?_
        | refine T_iload_n (pc1 := 53) (pc := 52) k_M_findFar_52 rfl rfl ?_
        | refine T_iconst (v := (nI 1)) (pc1 := 54) (pc := 53) k_M_findFar_53 rfl (by decide) ?_
        | (refine T_cV (As := [_, _]) (d1 := 1) (pc1 := 57) (pc := 54) k_M_findFar_54 rfl (by decide) (Nat.le_of_ble_eq_true rfl) rfl o_M_bitIs l_M_124 rfl (by first | exact ga G (by decide) rfl | assumption) rfl (c_M_bitN G (by assumption) (by omega) (by omega) (by first | assumption | rfl) ?_) <;> try dsimp only [psh])
        | refine T_istore (pc1 := 59) (pc := 57) k_M_findFar_57 rfl (Nat.le_of_ble_eq_true rfl) ?_
        | refine T_aload_n (pc1 := 60) (pc := 59) k_M_findFar_59 rfl rfl ?_
        | refine T_aload_nN (pc1 := 60) (pc := 59) k_M_findFar_59 rfl rfl ?_
        | refine T_iload_n (pc1 := 61) (pc := 60) k_M_findFar_60 rfl rfl ?_
        | refine T_iconst (v := (nI 2)) (pc1 := 62) (pc := 61) k_M_findFar_61 rfl (by decide) ?_
        | (refine T_cV (As := [_, _]) (d1 := 1) (pc1 := 65) (pc := 62) k_M_findFar_62 rfl (by decide) (Nat.le_of_ble_eq_true rfl) rfl o_M_bitIs l_M_124 rfl (by first | exact ga G (by decide) rfl | assumption) rfl (c_M_bitN G (by assumption) (by omega) (by omega) (by first | assumption | rfl) ?_) <;> try dsimp only [psh])
        | refine T_istore (pc1 := 67) (pc := 65) k_M_findFar_65 rfl (Nat.le_of_ble_eq_true rfl) ?_
        | refine T_aload_n (pc1 := 68) (pc := 67) k_M_findFar_67 rfl rfl ?_
        | refine T_aload_nN (pc1 := 68) (pc := 67) k_M_findFar_67 rfl rfl ?_
        | refine T_getR (pc1 := 71) (pc := 68) k_M_findFar_68 rfl f_M_19 rfl (by first | exact ga G (by decide) rfl | assumption) (by first | exact gr G (by decide) rfl | assumption) ?_
        | refine T_iload_n (pc1 := 72) (pc := 71) k_M_findFar_71 rfl rfl ?_
        | refine T_ialdN (pc1 := 73) (pc := 72) k_M_findFar_72 rfl (by first | exact ga G (by decide) rfl | assumption) (by omega) (by omega) (by first | assumption | (simp (disch := omega) only [pI_eq, pI_row, pI_col, va_up_self, va_up_ne, ne_eq, not_false_eq_true, hJN, h5, eo, et, hc1] <;> rfl) | rfl) ?_
        | refine T_iald (pc1 := 73) (pc := 72) k_M_findFar_72 rfl (by first | exact ga G (by decide) rfl | assumption) (by assumption) ?_
        | (with_reducible refine T_if_leN (tgt := 138) (pc1 := 76) (pc := 73) k_M_findFar_73 (by decide) (by decide) (by omega) (fun hc => ?_) (fun hc => ?_) <;> first | (exfalso; omega) | skip)
        | refine T_if_le_t (tgt := 138) (pc := 73) k_M_findFar_73 rfl (by decide) ?_
        | refine T_if_le_f (tgt := 138) (pc1 := 76) (pc := 73) k_M_findFar_73 rfl rfl (by decide) ?_
        | refine T_if_le (tgt := 138) (pc1 := 76) (pc := 73) k_M_findFar_73 rfl rfl (fun hc => ?_) (fun hc => ?_)
        | refine T_aload_n (pc1 := 77) (pc := 76) k_M_findFar_76 rfl rfl ?_
        | refine T_aload_nN (pc1 := 77) (pc := 76) k_M_findFar_76 rfl rfl ?_
        | refine T_getR (pc1 := 80) (pc := 77) k_M_findFar_77 rfl f_M_22 rfl (by first | exact ga G (by decide) rfl | assumption) (by first | exact gr G (by decide) rfl | assumption) ?_
        | refine T_iload (pc1 := 82) (pc := 80) k_M_findFar_80 rfl rfl ?_
        | refine T_aload_n (pc1 := 83) (pc := 82) k_M_findFar_82 rfl rfl ?_
        | refine T_aload_nN (pc1 := 83) (pc := 82) k_M_findFar_82 rfl rfl ?_
        | refine T_getR (pc1 := 86) (pc := 83) k_M_findFar_83 rfl f_M_22 rfl (by first | exact ga G (by decide) rfl | assumption) (by first | exact gr G (by decide) rfl | assumption) ?_
        | refine T_iload (pc1 := 88) (pc := 86) k_M_findFar_86 rfl rfl ?_
        | refine T_ialdN (pc1 := 89) (pc := 88) k_M_findFar_88 rfl (by first | exact ga G (by decide) rfl | assumption) (by omega) (by omega) (by first | assumption | (simp (disch := omega) only [pI_eq, pI_row, pI_col, va_up_self, va_up_ne, ne_eq, not_false_eq_true, hJN, h5, eo, et, hc1] <;> rfl) | rfl) ?_
        | refine T_iald (pc1 := 89) (pc := 88) k_M_findFar_88 rfl (by first | exact ga G (by decide) rfl | assumption) (by assumption) ?_
        | refine T_aload_n (pc1 := 90) (pc := 89) k_M_findFar_89 rfl rfl ?_
        | refine T_aload_nN (pc1 := 90) (pc := 89) k_M_findFar_89 rfl rfl ?_
        | refine T_getR (pc1 := 93) (pc := 90) k_M_findFar_90 rfl f_M_22 rfl (by first | exact ga G (by decide) rfl | assumption) (by first | exact gr G (by decide) rfl | assumption) ?_
        | refine T_iload (pc1 := 95) (pc := 93) k_M_findFar_93 rfl rfl ?_
        | refine T_ialdN (pc1 := 96) (pc := 95) k_M_findFar_95 rfl (by first | exact ga G (by decide) rfl | assumption) (by omega) (by omega) (by first | assumption | (simp (disch := omega) only [pI_eq, pI_row, pI_col, va_up_self, va_up_ne, ne_eq, not_false_eq_true, hJN, h5, eo, et, hc1] <;> rfl) | rfl) ?_
        | refine T_iald (pc1 := 96) (pc := 95) k_M_findFar_95 rfl (by first | exact ga G (by decide) rfl | assumption) (by assumption) ?_
        | refine T_aload_n (pc1 := 97) (pc := 96) k_M_findFar_96 rfl rfl ?_
        | refine T_aload_nN (pc1 := 97) (pc := 96) k_M_findFar_96 rfl rfl ?_
        | refine T_getR (pc1 := 100) (pc := 97) k_M_findFar_97 rfl f_M_19 rfl (by first | exact ga G (by decide) rfl | assumption) (by first | exact gr G (by decide) rfl | assumption) ?_
        | refine T_iload_n (pc1 := 101) (pc := 100) k_M_findFar_100 rfl rfl ?_
        | refine T_ialdN (pc1 := 102) (pc := 101) k_M_findFar_101 rfl (by first | exact ga G (by decide) rfl | assumption) (by omega) (by omega) (by first | assumption | (simp (disch := omega) only [pI_eq, pI_row, pI_col, va_up_self, va_up_ne, ne_eq, not_false_eq_true, hJN, h5, eo, et, hc1] <;> rfl) | rfl) ?_
        | refine T_iald (pc1 := 102) (pc := 101) k_M_findFar_101 rfl (by first | exact ga G (by decide) rfl | assumption) (by assumption) ?_
        | with_reducible refine T_iaddN (pc1 := 103) (pc := 102) k_M_findFar_102 (by decide) ?_
        | refine T_iadd (pc1 := 103) (pc := 102) k_M_findFar_102 rfl ?_
        | refine T_mminV (pc1 := 106) (pc := 103) k_M_findFar_103 rfl l_M_82 (by decide) (Nat.le_of_ble_eq_true rfl) (by with_reducible rfl) (by with_reducible rfl) (by omega) (by omega) ?_
        | refine T_mmin (pc1 := 106) (pc := 103) k_M_findFar_103 rfl l_M_82 (by decide) (Nat.le_of_ble_eq_true rfl) ?_
        | refine T_iastN (pc1 := 107) (pc := 106) k_M_findFar_106 rfl (by first | exact ga G (by decide) rfl | assumption) (by omega) (by omega) ?_
        | refine T_aload_n (pc1 := 108) (pc := 107) k_M_findFar_107 rfl rfl ?_
        | refine T_aload_nN (pc1 := 108) (pc := 107) k_M_findFar_107 rfl rfl ?_
        | refine T_getR (pc1 := 111) (pc := 108) k_M_findFar_108 rfl f_M_22 rfl (by first | exact ga G (by decide) rfl | assumption) (by first | exact gr G (by decide) rfl | assumption) ?_
        | refine T_iload (pc1 := 113) (pc := 111) k_M_findFar_111 rfl rfl ?_
        | refine T_aload_n (pc1 := 114) (pc := 113) k_M_findFar_113 rfl rfl ?_
        | refine T_aload_nN (pc1 := 114) (pc := 113) k_M_findFar_113 rfl rfl ?_
        | refine T_getR (pc1 := 117) (pc := 114) k_M_findFar_114 rfl f_M_22 rfl (by first | exact ga G (by decide) rfl | assumption) (by first | exact gr G (by decide) rfl | assumption) ?_
        | refine T_iload (pc1 := 119) (pc := 117) k_M_findFar_117 rfl rfl ?_
        | refine T_ialdN (pc1 := 120) (pc := 119) k_M_findFar_119 rfl (by first | exact ga G (by decide) rfl | assumption) (by omega) (by omega) (by first | assumption | (simp (disch := omega) only [pI_eq, pI_row, pI_col, va_up_self, va_up_ne, ne_eq, not_false_eq_true, hJN, h5, eo, et, hc1] <;> rfl) | rfl) ?_
        | refine T_iald (pc1 := 120) (pc := 119) k_M_findFar_119 rfl (by first | exact ga G (by decide) rfl | assumption) (by assumption) ?_
        | refine T_aload_n (pc1 := 121) (pc := 120) k_M_findFar_120 rfl rfl ?_
        | refine T_aload_nN (pc1 := 121) (pc := 120) k_M_findFar_120 rfl rfl ?_
        | refine T_getR (pc1 := 124) (pc := 121) k_M_findFar_121 rfl f_M_22 rfl (by first | exact ga G (by decide) rfl | assumption) (by first | exact gr G (by decide) rfl | assumption) ?_
        | refine T_iload (pc1 := 126) (pc := 124) k_M_findFar_124 rfl rfl ?_
        | refine T_ialdN (pc1 := 127) (pc := 126) k_M_findFar_126 rfl (by first | exact ga G (by decide) rfl | assumption) (by omega) (by omega) (by first | assumption | (simp (disch := omega) only [pI_eq, pI_row, pI_col, va_up_self, va_up_ne, ne_eq, not_false_eq_true, hJN, h5, eo, et, hc1] <;> rfl) | rfl) ?_
        | refine T_iald (pc1 := 127) (pc := 126) k_M_findFar_126 rfl (by first | exact ga G (by decide) rfl | assumption) (by assumption) ?_
        | refine T_aload_n (pc1 := 128) (pc := 127) k_M_findFar_127 rfl rfl ?_
        | refine T_aload_nN (pc1 := 128) (pc := 127) k_M_findFar_127 rfl rfl ?_
        | refine T_getR (pc1 := 131) (pc := 128) k_M_findFar_128 rfl f_M_19 rfl (by first | exact ga G (by decide) rfl | assumption) (by first | exact gr G (by decide) rfl | assumption) ?_
        | refine T_iload_n (pc1 := 132) (pc := 131) k_M_findFar_131 rfl rfl ?_
        | refine T_ialdN (pc1 := 133) (pc := 132) k_M_findFar_132 rfl (by first | exact ga G (by decide) rfl | assumption) (by omega) (by omega) (by first | assumption | (simp (disch := omega) only [pI_eq, pI_row, pI_col, va_up_self, va_up_ne, ne_eq, not_false_eq_true, hJN, h5, eo, et, hc1] <;> rfl) | rfl) ?_
        | refine T_iald (pc1 := 133) (pc := 132) k_M_findFar_132 rfl (by first | exact ga G (by decide) rfl | assumption) (by assumption) ?_
        | with_reducible refine T_iaddN (pc1 := 134) (pc := 133) k_M_findFar_133 (by decide) ?_
        | refine T_iadd (pc1 := 134) (pc := 133) k_M_findFar_133 rfl ?_
        | refine T_mminV (pc1 := 137) (pc := 134) k_M_findFar_134 rfl l_M_82 (by decide) (Nat.le_of_ble_eq_true rfl) (by with_reducible rfl) (by with_reducible rfl) (by omega) (by omega) ?_
        | refine T_mmin (pc1 := 137) (pc := 134) k_M_findFar_134 rfl l_M_82 (by decide) (Nat.le_of_ble_eq_true rfl) ?_
        | refine T_iastN (pc1 := 138) (pc := 137) k_M_findFar_137 rfl (by first | exact ga G (by decide) rfl | assumption) (by omega) (by omega) ?_
        | refine T_iincN (b := 1) (pc1 := 141) (pc := 138) k_M_findFar_138 rfl rfl (by decide) ?_
        | refine T_iinc (v := (nI 1)) (pc1 := 141) (pc := 138) k_M_findFar_138 rfl rfl (by decide) ?_
        | refine T_goto (tgt := 41) (pc := 141) k_M_findFar_141 rfl ?_
        | refine T_iincN (b := 1) (pc1 := 147) (pc := 144) k_M_findFar_144 rfl rfl (by decide) ?_
        | refine T_iinc (v := (nI 1)) (pc1 := 147) (pc := 144) k_M_findFar_144 rfl rfl (by decide) ?_
        | refine T_goto (tgt := 33) (pc := 147) k_M_findFar_147 rfl ?_
        | refine T_retV (pc := 150) k_M_findFar_150 rfl ?_)
      all_goals
        refine ih (s + 1) _ (by omega) (eqx_pI hJ _ (by decide)) (fun v hv8 => ?_)
        rw [pI_self]
        by_cases hvs : v = s
        · subst hvs
          rw [va_up_self, ini]
          first | rw [if_neg (by assumption)] | rw [if_pos (by omega)]
        · rw [va_up_ne _ _ hvs]
          exact hv v (by omega)
  repeat' (first
    | refine T_iconst (v := (nI 0)) (pc1 := 1) (pc := 0) k_M_findFar_0 rfl (by decide) ?_
    | refine T_istore_n (pc1 := 2) (pc := 1) k_M_findFar_1 rfl (Nat.le_of_ble_eq_true rfl) ?_
    | refine T_bipush (v := (nI 8)) (pc1 := 5) (pc := 3) k_M_findFar_3 rfl (by decide) ?_
    | (with_reducible refine T_icmp_geN (tgt := 31) (pc1 := 8) (pc := 5) k_M_findFar_5 (by decide) (by decide) (by omega) (by omega) (fun hc => ?_) (fun hc => ?_) <;> first | (exfalso; omega) | skip)
    | refine T_icmp_ge_t (tgt := 31) (pc := 5) k_M_findFar_5 rfl (by decide) ?_
    | refine T_icmp_ge_f (tgt := 31) (pc1 := 8) (pc := 5) k_M_findFar_5 rfl rfl (by decide) ?_
    | refine T_icmp_ge (tgt := 31) (pc1 := 8) (pc := 5) k_M_findFar_5 rfl rfl (fun hc => ?_) (fun hc => ?_)
    | refine T_aload_n (pc1 := 9) (pc := 8) k_M_findFar_8 rfl rfl ?_
    | refine T_aload_nN (pc1 := 9) (pc := 8) k_M_findFar_8 rfl rfl ?_
    | refine T_getR (pc1 := 12) (pc := 9) k_M_findFar_9 rfl f_M_22 rfl (by first | exact ga G (by decide) rfl | assumption) (by first | exact gr G (by decide) rfl | assumption) ?_
    | refine T_iload_n (pc1 := 13) (pc := 12) k_M_findFar_12 rfl rfl ?_
    | refine T_iload_n (pc1 := 14) (pc := 13) k_M_findFar_13 rfl rfl ?_
    | refine T_iload_n (pc1 := 15) (pc := 14) k_M_findFar_14 rfl rfl ?_
    | (with_reducible refine T_icmp_neN (tgt := 22) (pc1 := 18) (pc := 15) k_M_findFar_15 (by decide) (by decide) (by omega) (by omega) (fun hc => ?_) (fun hc => ?_) <;> first | (exfalso; omega) | skip)
    | refine T_icmp_ne_t (tgt := 22) (pc := 15) k_M_findFar_15 rfl (by decide) ?_
    | refine T_icmp_ne_f (tgt := 22) (pc1 := 18) (pc := 15) k_M_findFar_15 rfl rfl (by decide) ?_
    | refine T_icmp_ne (tgt := 22) (pc1 := 18) (pc := 15) k_M_findFar_15 rfl rfl (fun hc => ?_) (fun hc => ?_)
    | refine T_iconst (v := (nI 0)) (pc1 := 19) (pc := 18) k_M_findFar_18 rfl (by decide) ?_
    | refine T_goto (tgt := 24) (pc := 19) k_M_findFar_19 rfl ?_
    | refine T_ldc (v := (nI 1000000)) (pc1 := 24) (pc := 22) k_M_findFar_22 rfl c_M_163 ?_
    | refine T_iastN (pc1 := 25) (pc := 24) k_M_findFar_24 rfl (by first | exact ga G (by decide) rfl | assumption) (by omega) (by omega) ?_
    | refine T_iincN (b := 1) (pc1 := 28) (pc := 25) k_M_findFar_25 rfl rfl (by decide) ?_
    | refine T_iinc (v := (nI 1)) (pc1 := 28) (pc := 25) k_M_findFar_25 rfl rfl (by decide) ?_
    | refine T_goto (tgt := 2) (pc := 28) k_M_findFar_28 rfl ?_
    | refine T_iconst (v := (nI 0)) (pc1 := 32) (pc := 31) k_M_findFar_31 rfl (by decide) ?_
    | refine T_istore_n (pc1 := 33) (pc := 32) k_M_findFar_32 rfl (Nat.le_of_ble_eq_true rfl) ?_
    | refine T_iload_n (pc1 := 34) (pc := 33) k_M_findFar_33 rfl rfl ?_
    | refine T_bipush (v := (nI 8)) (pc1 := 36) (pc := 34) k_M_findFar_34 rfl (by decide) ?_
    | (with_reducible refine T_icmp_geN (tgt := 150) (pc1 := 39) (pc := 36) k_M_findFar_36 (by decide) (by decide) (by omega) (by omega) (fun hc => ?_) (fun hc => ?_) <;> first | (exfalso; omega) | skip)
    | refine T_icmp_ge_t (tgt := 150) (pc := 36) k_M_findFar_36 rfl (by decide) ?_
    | refine T_icmp_ge_f (tgt := 150) (pc1 := 39) (pc := 36) k_M_findFar_36 rfl rfl (by decide) ?_
    | refine T_icmp_ge (tgt := 150) (pc1 := 39) (pc := 36) k_M_findFar_36 rfl rfl (fun hc => ?_) (fun hc => ?_)
    | refine T_iconst (v := (nI 0)) (pc1 := 40) (pc := 39) k_M_findFar_39 rfl (by decide) ?_
    | refine T_istore_n (pc1 := 41) (pc := 40) k_M_findFar_40 rfl (Nat.le_of_ble_eq_true rfl) ?_
    | refine T_iload_n (pc1 := 42) (pc := 41) k_M_findFar_41 rfl rfl ?_
    | refine T_aload_n (pc1 := 43) (pc := 42) k_M_findFar_42 rfl rfl ?_
    | refine T_aload_nN (pc1 := 43) (pc := 42) k_M_findFar_42 rfl rfl ?_
    | refine T_getR (pc1 := 46) (pc := 43) k_M_findFar_43 rfl f_M_9 rfl (by first | exact ga G (by decide) rfl | assumption) (by first | exact gr G (by decide) rfl | assumption) ?_
    | refine T_iconst (v := (nI 5)) (pc1 := 47) (pc := 46) k_M_findFar_46 rfl (by decide) ?_
    | refine T_ialdN (pc1 := 48) (pc := 47) k_M_findFar_47 rfl (by first | exact ga G (by decide) rfl | assumption) (by omega) (by omega) (by first | assumption | (simp (disch := omega) only [pI_eq, pI_row, pI_col, va_up_self, va_up_ne, ne_eq, not_false_eq_true, hJN, h5, eo, et, hc1] <;> rfl) | rfl) ?_
    | refine T_iald (pc1 := 48) (pc := 47) k_M_findFar_47 rfl (by first | exact ga G (by decide) rfl | assumption) (by assumption) ?_
    | (with_reducible refine T_icmp_geN (tgt := 144) (pc1 := 51) (pc := 48) k_M_findFar_48 (by decide) (by decide) (by omega) (by omega) (fun hc => ?_) (fun hc => ?_) <;> first | (exfalso; omega) | skip)
    | refine T_icmp_ge_t (tgt := 144) (pc := 48) k_M_findFar_48 rfl (by decide) ?_
    | refine T_icmp_ge_f (tgt := 144) (pc1 := 51) (pc := 48) k_M_findFar_48 rfl rfl (by decide) ?_
    | refine T_icmp_ge (tgt := 144) (pc1 := 51) (pc := 48) k_M_findFar_48 rfl rfl (fun hc => ?_) (fun hc => ?_)
    | refine T_aload_n (pc1 := 52) (pc := 51) k_M_findFar_51 rfl rfl ?_
    | refine T_aload_nN (pc1 := 52) (pc := 51) k_M_findFar_51 rfl rfl ?_
    | refine T_iload_n (pc1 := 53) (pc := 52) k_M_findFar_52 rfl rfl ?_
    | refine T_iconst (v := (nI 1)) (pc1 := 54) (pc := 53) k_M_findFar_53 rfl (by decide) ?_
    | (refine T_cV (As := [_, _]) (d1 := 1) (pc1 := 57) (pc := 54) k_M_findFar_54 rfl (by decide) (Nat.le_of_ble_eq_true rfl) rfl o_M_bitIs l_M_124 rfl (by first | exact ga G (by decide) rfl | assumption) rfl (c_M_bitN G (by assumption) (by omega) (by omega) (by first | assumption | rfl) ?_) <;> try dsimp only [psh])
    | refine T_istore (pc1 := 59) (pc := 57) k_M_findFar_57 rfl (Nat.le_of_ble_eq_true rfl) ?_
    | refine T_aload_n (pc1 := 60) (pc := 59) k_M_findFar_59 rfl rfl ?_
    | refine T_aload_nN (pc1 := 60) (pc := 59) k_M_findFar_59 rfl rfl ?_
    | refine T_iload_n (pc1 := 61) (pc := 60) k_M_findFar_60 rfl rfl ?_
    | refine T_iconst (v := (nI 2)) (pc1 := 62) (pc := 61) k_M_findFar_61 rfl (by decide) ?_
    | (refine T_cV (As := [_, _]) (d1 := 1) (pc1 := 65) (pc := 62) k_M_findFar_62 rfl (by decide) (Nat.le_of_ble_eq_true rfl) rfl o_M_bitIs l_M_124 rfl (by first | exact ga G (by decide) rfl | assumption) rfl (c_M_bitN G (by assumption) (by omega) (by omega) (by first | assumption | rfl) ?_) <;> try dsimp only [psh])
    | refine T_istore (pc1 := 67) (pc := 65) k_M_findFar_65 rfl (Nat.le_of_ble_eq_true rfl) ?_
    | refine T_aload_n (pc1 := 68) (pc := 67) k_M_findFar_67 rfl rfl ?_
    | refine T_aload_nN (pc1 := 68) (pc := 67) k_M_findFar_67 rfl rfl ?_
    | refine T_getR (pc1 := 71) (pc := 68) k_M_findFar_68 rfl f_M_19 rfl (by first | exact ga G (by decide) rfl | assumption) (by first | exact gr G (by decide) rfl | assumption) ?_
    | refine T_iload_n (pc1 := 72) (pc := 71) k_M_findFar_71 rfl rfl ?_
    | refine T_ialdN (pc1 := 73) (pc := 72) k_M_findFar_72 rfl (by first | exact ga G (by decide) rfl | assumption) (by omega) (by omega) (by first | assumption | (simp (disch := omega) only [pI_eq, pI_row, pI_col, va_up_self, va_up_ne, ne_eq, not_false_eq_true, hJN, h5, eo, et, hc1] <;> rfl) | rfl) ?_
    | refine T_iald (pc1 := 73) (pc := 72) k_M_findFar_72 rfl (by first | exact ga G (by decide) rfl | assumption) (by assumption) ?_
    | (with_reducible refine T_if_leN (tgt := 138) (pc1 := 76) (pc := 73) k_M_findFar_73 (by decide) (by decide) (by omega) (fun hc => ?_) (fun hc => ?_) <;> first | (exfalso; omega) | skip)
    | refine T_if_le_t (tgt := 138) (pc := 73) k_M_findFar_73 rfl (by decide) ?_
    | refine T_if_le_f (tgt := 138) (pc1 := 76) (pc := 73) k_M_findFar_73 rfl rfl (by decide) ?_
    | refine T_if_le (tgt := 138) (pc1 := 76) (pc := 73) k_M_findFar_73 rfl rfl (fun hc => ?_) (fun hc => ?_)
    | refine T_aload_n (pc1 := 77) (pc := 76) k_M_findFar_76 rfl rfl ?_
    | refine T_aload_nN (pc1 := 77) (pc := 76) k_M_findFar_76 rfl rfl ?_
    | refine T_getR (pc1 := 80) (pc := 77) k_M_findFar_77 rfl f_M_22 rfl (by first | exact ga G (by decide) rfl | assumption) (by first | exact gr G (by decide) rfl | assumption) ?_
    | refine T_iload (pc1 := 82) (pc := 80) k_M_findFar_80 rfl rfl ?_
    | refine T_aload_n (pc1 := 83) (pc := 82) k_M_findFar_82 rfl rfl ?_
    | refine T_aload_nN (pc1 := 83) (pc := 82) k_M_findFar_82 rfl rfl ?_
    | refine T_getR (pc1 := 86) (pc := 83) k_M_findFar_83 rfl f_M_22 rfl (by first | exact ga G (by decide) rfl | assumption) (by first | exact gr G (by decide) rfl | assumption) ?_
    | refine T_iload (pc1 := 88) (pc := 86) k_M_findFar_86 rfl rfl ?_
    | refine T_ialdN (pc1 := 89) (pc := 88) k_M_findFar_88 rfl (by first | exact ga G (by decide) rfl | assumption) (by omega) (by omega) (by first | assumption | (simp (disch := omega) only [pI_eq, pI_row, pI_col, va_up_self, va_up_ne, ne_eq, not_false_eq_true, hJN, h5, eo, et, hc1] <;> rfl) | rfl) ?_
    | refine T_iald (pc1 := 89) (pc := 88) k_M_findFar_88 rfl (by first | exact ga G (by decide) rfl | assumption) (by assumption) ?_
    | refine T_aload_n (pc1 := 90) (pc := 89) k_M_findFar_89 rfl rfl ?_
    | refine T_aload_nN (pc1 := 90) (pc := 89) k_M_findFar_89 rfl rfl ?_
    | refine T_getR (pc1 := 93) (pc := 90) k_M_findFar_90 rfl f_M_22 rfl (by first | exact ga G (by decide) rfl | assumption) (by first | exact gr G (by decide) rfl | assumption) ?_
    | refine T_iload (pc1 := 95) (pc := 93) k_M_findFar_93 rfl rfl ?_
    | refine T_ialdN (pc1 := 96) (pc := 95) k_M_findFar_95 rfl (by first | exact ga G (by decide) rfl | assumption) (by omega) (by omega) (by first | assumption | (simp (disch := omega) only [pI_eq, pI_row, pI_col, va_up_self, va_up_ne, ne_eq, not_false_eq_true, hJN, h5, eo, et, hc1] <;> rfl) | rfl) ?_
    | refine T_iald (pc1 := 96) (pc := 95) k_M_findFar_95 rfl (by first | exact ga G (by decide) rfl | assumption) (by assumption) ?_
    | refine T_aload_n (pc1 := 97) (pc := 96) k_M_findFar_96 rfl rfl ?_
    | refine T_aload_nN (pc1 := 97) (pc := 96) k_M_findFar_96 rfl rfl ?_
    | refine T_getR (pc1 := 100) (pc := 97) k_M_findFar_97 rfl f_M_19 rfl (by first | exact ga G (by decide) rfl | assumption) (by first | exact gr G (by decide) rfl | assumption) ?_
    | refine T_iload_n (pc1 := 101) (pc := 100) k_M_findFar_100 rfl rfl ?_
    | refine T_ialdN (pc1 := 102) (pc := 101) k_M_findFar_101 rfl (by first | exact ga G (by decide) rfl | assumption) (by omega) (by omega) (by first | assumption | (simp (disch := omega) only [pI_eq, pI_row, pI_col, va_up_self, va_up_ne, ne_eq, not_false_eq_true, hJN, h5, eo, et, hc1] <;> rfl) | rfl) ?_
    | refine T_iald (pc1 := 102) (pc := 101) k_M_findFar_101 rfl (by first | exact ga G (by decide) rfl | assumption) (by assumption) ?_
    | with_reducible refine T_iaddN (pc1 := 103) (pc := 102) k_M_findFar_102 (by decide) ?_
    | refine T_iadd (pc1 := 103) (pc := 102) k_M_findFar_102 rfl ?_
    | refine T_mminV (pc1 := 106) (pc := 103) k_M_findFar_103 rfl l_M_82 (by decide) (Nat.le_of_ble_eq_true rfl) (by with_reducible rfl) (by with_reducible rfl) (by omega) (by omega) ?_
    | refine T_mmin (pc1 := 106) (pc := 103) k_M_findFar_103 rfl l_M_82 (by decide) (Nat.le_of_ble_eq_true rfl) ?_
    | refine T_iastN (pc1 := 107) (pc := 106) k_M_findFar_106 rfl (by first | exact ga G (by decide) rfl | assumption) (by omega) (by omega) ?_
    | refine T_aload_n (pc1 := 108) (pc := 107) k_M_findFar_107 rfl rfl ?_
    | refine T_aload_nN (pc1 := 108) (pc := 107) k_M_findFar_107 rfl rfl ?_
    | refine T_getR (pc1 := 111) (pc := 108) k_M_findFar_108 rfl f_M_22 rfl (by first | exact ga G (by decide) rfl | assumption) (by first | exact gr G (by decide) rfl | assumption) ?_
    | refine T_iload (pc1 := 113) (pc := 111) k_M_findFar_111 rfl rfl ?_
    | refine T_aload_n (pc1 := 114) (pc := 113) k_M_findFar_113 rfl rfl ?_
    | refine T_aload_nN (pc1 := 114) (pc := 113) k_M_findFar_113 rfl rfl ?_
    | refine T_getR (pc1 := 117) (pc := 114) k_M_findFar_114 rfl f_M_22 rfl (by first | exact ga G (by decide) rfl | assumption) (by first | exact gr G (by decide) rfl | assumption) ?_
    | refine T_iload (pc1 := 119) (pc := 117) k_M_findFar_117 rfl rfl ?_
    | refine T_ialdN (pc1 := 120) (pc := 119) k_M_findFar_119 rfl (by first | exact ga G (by decide) rfl | assumption) (by omega) (by omega) (by first | assumption | (simp (disch := omega) only [pI_eq, pI_row, pI_col, va_up_self, va_up_ne, ne_eq, not_false_eq_true, hJN, h5, eo, et, hc1] <;> rfl) | rfl) ?_
    | refine T_iald (pc1 := 120) (pc := 119) k_M_findFar_119 rfl (by first | exact ga G (by decide) rfl | assumption) (by assumption) ?_
    | refine T_aload_n (pc1 := 121) (pc := 120) k_M_findFar_120 rfl rfl ?_
    | refine T_aload_nN (pc1 := 121) (pc := 120) k_M_findFar_120 rfl rfl ?_
    | refine T_getR (pc1 := 124) (pc := 121) k_M_findFar_121 rfl f_M_22 rfl (by first | exact ga G (by decide) rfl | assumption) (by first | exact gr G (by decide) rfl | assumption) ?_
    | refine T_iload (pc1 := 126) (pc := 124) k_M_findFar_124 rfl rfl ?_
    | refine T_ialdN (pc1 := 127) (pc := 126) k_M_findFar_126 rfl (by first | exact ga G (by decide) rfl | assumption) (by omega) (by omega) (by first | assumption | (simp (disch := omega) only [pI_eq, pI_row, pI_col, va_up_self, va_up_ne, ne_eq, not_false_eq_true, hJN, h5, eo, et, hc1] <;> rfl) | rfl) ?_
    | refine T_iald (pc1 := 127) (pc := 126) k_M_findFar_126 rfl (by first | exact ga G (by decide) rfl | assumption) (by assumption) ?_
    | refine T_aload_n (pc1 := 128) (pc := 127) k_M_findFar_127 rfl rfl ?_
    | refine T_aload_nN (pc1 := 128) (pc := 127) k_M_findFar_127 rfl rfl ?_
    | refine T_getR (pc1 := 131) (pc := 128) k_M_findFar_128 rfl f_M_19 rfl (by first | exact ga G (by decide) rfl | assumption) (by first | exact gr G (by decide) rfl | assumption) ?_
    | refine T_iload_n (pc1 := 132) (pc := 131) k_M_findFar_131 rfl rfl ?_
    | refine T_ialdN (pc1 := 133) (pc := 132) k_M_findFar_132 rfl (by first | exact ga G (by decide) rfl | assumption) (by omega) (by omega) (by first | assumption | (simp (disch := omega) only [pI_eq, pI_row, pI_col, va_up_self, va_up_ne, ne_eq, not_false_eq_true, hJN, h5, eo, et, hc1] <;> rfl) | rfl) ?_
    | refine T_iald (pc1 := 133) (pc := 132) k_M_findFar_132 rfl (by first | exact ga G (by decide) rfl | assumption) (by assumption) ?_
    | with_reducible refine T_iaddN (pc1 := 134) (pc := 133) k_M_findFar_133 (by decide) ?_
    | refine T_iadd (pc1 := 134) (pc := 133) k_M_findFar_133 rfl ?_
    | refine T_mminV (pc1 := 137) (pc := 134) k_M_findFar_134 rfl l_M_82 (by decide) (Nat.le_of_ble_eq_true rfl) (by with_reducible rfl) (by with_reducible rfl) (by omega) (by omega) ?_
    | refine T_mmin (pc1 := 137) (pc := 134) k_M_findFar_134 rfl l_M_82 (by decide) (Nat.le_of_ble_eq_true rfl) ?_
    | refine T_iastN (pc1 := 138) (pc := 137) k_M_findFar_137 rfl (by first | exact ga G (by decide) rfl | assumption) (by omega) (by omega) ?_
    | refine T_iincN (b := 1) (pc1 := 141) (pc := 138) k_M_findFar_138 rfl rfl (by decide) ?_
    | refine T_iinc (v := (nI 1)) (pc1 := 141) (pc := 138) k_M_findFar_138 rfl rfl (by decide) ?_
    | refine T_goto (tgt := 41) (pc := 141) k_M_findFar_141 rfl ?_
    | refine T_iincN (b := 1) (pc1 := 147) (pc := 144) k_M_findFar_144 rfl rfl (by decide) ?_
    | refine T_iinc (v := (nI 1)) (pc1 := 147) (pc := 144) k_M_findFar_144 rfl rfl (by decide) ?_
    | refine T_goto (tgt := 33) (pc := 147) k_M_findFar_147 rfl ?_
    | refine T_retV (pc := 150) k_M_findFar_150 rfl ?_)
  exact first 8 0 I (by omega) eqx_rf (fun v hv => absurd hv (Nat.not_lt_zero _))
theorem c_M_otherEnd {N : Row} {n tn b at0 : Nat} (G : GeoOK g) (hN : I 102 = N) (ok : okL N n tn) (hb : b < n) (ha : at0 < 8) (kk : ∀ v, ((ed N b).1 = at0 → v = nI (ed N b).2) → ((ed N b).1 ≠ at0 → (ed N b).2 = at0 → v = nI (ed N b).1) → ((ed N b).1 ≠ at0 → (ed N b).2 ≠ at0 → v = -1) → K (some (.int v)) g I) : Cl 2 M_M_otherEnd [.ref 101, .int (nI b), .int (nI at0)] g I K := by
  show Rl 2 M_M_otherEnd 0 [some (.ref 101), some (.int (nI b)), some (.int (nI at0))] [] g I K
  have h14 := ok.2.1
  obtain ⟨k, o, t, l, rr, -, -, h1, ho, h2, ht, hne, -⟩ := ok.2.2.2.2.1 b hb
  have e1 : (ed N b).1 = o := by unfold ed; rw [h1]; exact nI_clamp (by omega)
  have e2 : (ed N b).2 = t := by unfold ed; rw [h2]; exact nI_clamp (by omega)
  rw [e1, e2] at kk
  repeat' (first
    | refine T_aload_n (pc1 := 1) (pc := 0) k_M_otherEnd_0 rfl rfl ?_
    | refine T_aload_nN (pc1 := 1) (pc := 0) k_M_otherEnd_0 rfl rfl ?_
    | refine T_iload_n (pc1 := 2) (pc := 1) k_M_otherEnd_1 rfl rfl ?_
    | refine T_iconst (v := (nI 1)) (pc1 := 3) (pc := 2) k_M_otherEnd_2 rfl (by decide) ?_
    | (refine T_cV (As := [_, _]) (d1 := 1) (pc1 := 6) (pc := 3) k_M_otherEnd_3 rfl (by decide) (Nat.le_of_ble_eq_true rfl) rfl o_M_bitIs l_M_124 rfl (by first | exact ga G (by decide) rfl | assumption) rfl (c_M_bitN G (by assumption) (by omega) (by omega) (by first | assumption | rfl) ?_) <;> try dsimp only [psh])
    | refine T_iload_n (pc1 := 7) (pc := 6) k_M_otherEnd_6 rfl rfl ?_
    | (with_reducible refine T_icmp_neN (tgt := 19) (pc1 := 10) (pc := 7) k_M_otherEnd_7 (by decide) (by decide) (by omega) (by omega) (fun hc => ?_) (fun hc => ?_) <;> first | (exfalso; omega) | skip)
    | refine T_icmp_ne_t (tgt := 19) (pc := 7) k_M_otherEnd_7 rfl (by decide) ?_
    | refine T_icmp_ne_f (tgt := 19) (pc1 := 10) (pc := 7) k_M_otherEnd_7 rfl rfl (by decide) ?_
    | refine T_icmp_ne (tgt := 19) (pc1 := 10) (pc := 7) k_M_otherEnd_7 rfl rfl (fun hc => ?_) (fun hc => ?_)
    | refine T_aload_n (pc1 := 11) (pc := 10) k_M_otherEnd_10 rfl rfl ?_
    | refine T_aload_nN (pc1 := 11) (pc := 10) k_M_otherEnd_10 rfl rfl ?_
    | refine T_iload_n (pc1 := 12) (pc := 11) k_M_otherEnd_11 rfl rfl ?_
    | refine T_iconst (v := (nI 2)) (pc1 := 13) (pc := 12) k_M_otherEnd_12 rfl (by decide) ?_
    | (refine T_cV (As := [_, _]) (d1 := 1) (pc1 := 16) (pc := 13) k_M_otherEnd_13 rfl (by decide) (Nat.le_of_ble_eq_true rfl) rfl o_M_bitIs l_M_124 rfl (by first | exact ga G (by decide) rfl | assumption) rfl (c_M_bitN G (by assumption) (by omega) (by omega) (by first | assumption | rfl) ?_) <;> try dsimp only [psh])
    | refine T_goto (tgt := 39) (pc := 16) k_M_otherEnd_16 rfl ?_
    | refine T_aload_n (pc1 := 20) (pc := 19) k_M_otherEnd_19 rfl rfl ?_
    | refine T_aload_nN (pc1 := 20) (pc := 19) k_M_otherEnd_19 rfl rfl ?_
    | refine T_iload_n (pc1 := 21) (pc := 20) k_M_otherEnd_20 rfl rfl ?_
    | refine T_iconst (v := (nI 2)) (pc1 := 22) (pc := 21) k_M_otherEnd_21 rfl (by decide) ?_
    | (refine T_cV (As := [_, _]) (d1 := 1) (pc1 := 25) (pc := 22) k_M_otherEnd_22 rfl (by decide) (Nat.le_of_ble_eq_true rfl) rfl o_M_bitIs l_M_124 rfl (by first | exact ga G (by decide) rfl | assumption) rfl (c_M_bitN G (by assumption) (by omega) (by omega) (by first | assumption | rfl) ?_) <;> try dsimp only [psh])
    | refine T_iload_n (pc1 := 26) (pc := 25) k_M_otherEnd_25 rfl rfl ?_
    | (with_reducible refine T_icmp_neN (tgt := 38) (pc1 := 29) (pc := 26) k_M_otherEnd_26 (by decide) (by decide) (by omega) (by omega) (fun hc => ?_) (fun hc => ?_) <;> first | (exfalso; omega) | skip)
    | refine T_icmp_ne_t (tgt := 38) (pc := 26) k_M_otherEnd_26 rfl (by decide) ?_
    | refine T_icmp_ne_f (tgt := 38) (pc1 := 29) (pc := 26) k_M_otherEnd_26 rfl rfl (by decide) ?_
    | refine T_icmp_ne (tgt := 38) (pc1 := 29) (pc := 26) k_M_otherEnd_26 rfl rfl (fun hc => ?_) (fun hc => ?_)
    | refine T_aload_n (pc1 := 30) (pc := 29) k_M_otherEnd_29 rfl rfl ?_
    | refine T_aload_nN (pc1 := 30) (pc := 29) k_M_otherEnd_29 rfl rfl ?_
    | refine T_iload_n (pc1 := 31) (pc := 30) k_M_otherEnd_30 rfl rfl ?_
    | refine T_iconst (v := (nI 1)) (pc1 := 32) (pc := 31) k_M_otherEnd_31 rfl (by decide) ?_
    | (refine T_cV (As := [_, _]) (d1 := 1) (pc1 := 35) (pc := 32) k_M_otherEnd_32 rfl (by decide) (Nat.le_of_ble_eq_true rfl) rfl o_M_bitIs l_M_124 rfl (by first | exact ga G (by decide) rfl | assumption) rfl (c_M_bitN G (by assumption) (by omega) (by omega) (by first | assumption | rfl) ?_) <;> try dsimp only [psh])
    | refine T_goto (tgt := 39) (pc := 35) k_M_otherEnd_35 rfl ?_
    | refine T_iconst (v := (-1)) (pc1 := 39) (pc := 38) k_M_otherEnd_38 rfl (by decide) ?_
    | refine T_retI (pc := 39) k_M_otherEnd_39 rfl (by first | rfl | decide | assumption) ?_)
  all_goals exact kk _ (fun _ => by first | rfl | (exfalso; omega)) (fun _ _ => by first | rfl | (exfalso; omega)) (fun _ _ => by first | rfl | (exfalso; omega))
end M7
