/-! The model: a text is worked out. -/
section M3
variable {g : Geo} {I : IM} {K : Option Value → Geo → IM → Prop}
theorem dp_le {c : Row} {m lv nn : Nat} (ok : okc c m lv nn) : ∀ k, k ≤ m → dp c k ≤ lv
  | 0, _ => Nat.zero_le _
  | k + 1, h => by
    have ih := dp_le ok k (by omega)
    have o := ok.1 k (by omega)
    unfold dp
    by_cases h1 : (-10 : Int32) ≤ c k
    · rw [if_pos h1]
      have := (o.1 h1).1
      omega
    · rw [if_neg h1]
      by_cases h2 : c k = -29
      · rw [if_pos h2]; exact ih
      · rw [if_neg h2]; omega
theorem le_tr {a b c : Int32} (h1 : a ≤ b) (h2 : b ≤ c) : a ≤ c := by rw [le_toInt] at *; omega
set_option maxHeartbeats 4000000 in
theorem c_M_worked {N nm : Row} {t m lv nn : Nat} (G : GeoOK g) (hN : I 102 = N) (hnm : I 112 = nm) (ht : t < 14) (hm : N (158 + 100 * t) = nI m) (h96 : m ≤ 96) (hlv : lv ≤ 96) (hnn : nn ≤ 3) (ok : okc (cod N t) m lv nn) (kk : ∀ J, eqx [113] I J → K (some (.int (evl N t m nm))) g J) : Cl 2 M_M_worked [.ref 101, .int (nI t)] g I K := by
  show Rl 2 M_M_worked 0 [some (.ref 101), some (.int (nI t)), none, none, none, none] [] g I K
  have loop : ∀ r k o5 (J : IM), k + r = m → eqx [113] I J → (∀ j, j < dp (cod N t) k → J 113 j = pl (cod N t) nm k j) → Rl 2 M_M_worked 14 [some (.ref 101), some (.int (nI t)), some (.int (nI (156 + 100 * t))), some (.int (nI (dp (cod N t) k))), some (.int (nI k)), o5] [] g J K := by
    intro r
    induction r with
    | zero =>
      intro k o5 J hk hJ hp
      have hk : k = m := by omega
      subst hk
      have hJN : J 102 = N := (hJ 102 (by decide)).trans hN
      have hm1 : J 102 (156 + 100 * t + 2) = nI k := by rw [hJN, show 156 + 100 * t + 2 = 158 + 100 * t by omega]; exact hm
      have h0 : J 113 0 = evl N t k nm := hp 0 (by rw [ok.2]; decide)
      repeat' (first
        | refine T_sipush (v := (nI 156)) (pc1 := 3) (pc := 0) k_M_worked_0 rfl (by decide) ?_
        | refine T_bipush (v := (nI 100)) (pc1 := 5) (pc := 3) k_M_worked_3 rfl (by decide) ?_
        | refine T_iload_n (pc1 := 6) (pc := 5) k_M_worked_5 rfl rfl ?_
        | with_reducible refine T_imulN (pc1 := 7) (pc := 6) k_M_worked_6 (by decide) ?_
        | refine T_imul (pc1 := 7) (pc := 6) k_M_worked_6 rfl ?_
        | with_reducible refine T_iaddN (pc1 := 8) (pc := 7) k_M_worked_7 (by decide) ?_
        | refine T_iadd (pc1 := 8) (pc := 7) k_M_worked_7 rfl ?_
        | refine T_istore_n (pc1 := 9) (pc := 8) k_M_worked_8 rfl (Nat.le_of_ble_eq_true rfl) ?_
        | refine T_iconst (v := (nI 0)) (pc1 := 10) (pc := 9) k_M_worked_9 rfl (by decide) ?_
        | refine T_istore_n (pc1 := 11) (pc := 10) k_M_worked_10 rfl (Nat.le_of_ble_eq_true rfl) ?_
        | refine T_iconst (v := (nI 0)) (pc1 := 12) (pc := 11) k_M_worked_11 rfl (by decide) ?_
        | refine T_istore (pc1 := 14) (pc := 12) k_M_worked_12 rfl (Nat.le_of_ble_eq_true rfl) ?_
        | refine T_iload (pc1 := 16) (pc := 14) k_M_worked_14 rfl rfl ?_
        | refine T_aload_n (pc1 := 17) (pc := 16) k_M_worked_16 rfl rfl ?_
        | refine T_aload_nN (pc1 := 17) (pc := 16) k_M_worked_16 rfl rfl ?_
        | refine T_getR (pc1 := 20) (pc := 17) k_M_worked_17 rfl f_M_9 rfl (by first | exact ga G (by decide) rfl | assumption) (by first | exact gr G (by decide) rfl | assumption) ?_
        | refine T_iload_n (pc1 := 21) (pc := 20) k_M_worked_20 rfl rfl ?_
        | refine T_iconst (v := (nI 2)) (pc1 := 22) (pc := 21) k_M_worked_21 rfl (by decide) ?_
        | with_reducible refine T_iaddN (pc1 := 23) (pc := 22) k_M_worked_22 (by decide) ?_
        | refine T_iadd (pc1 := 23) (pc := 22) k_M_worked_22 rfl ?_
        | refine T_ialdN (pc1 := 24) (pc := 23) k_M_worked_23 rfl (by first | exact ga G (by decide) rfl | assumption) (by omega) (by omega) (by first | assumption | (simp (disch := omega) only [pI_eq, pI_row, pI_col, va_up_self, va_up_ne, ne_eq, not_false_eq_true] <;> rfl) | rfl) ?_
        | refine T_iald (pc1 := 24) (pc := 23) k_M_worked_23 rfl (by first | exact ga G (by decide) rfl | assumption) (by assumption) ?_
        | (with_reducible refine T_icmp_geN (tgt := 158) (pc1 := 27) (pc := 24) k_M_worked_24 (by decide) (by decide) (by omega) (by omega) (fun hc => ?_) (fun hc => ?_) <;> first | (exfalso; omega) | skip)
        | refine T_icmp_ge_t (tgt := 158) (pc := 24) k_M_worked_24 rfl (by decide) ?_
        | refine T_icmp_ge_f (tgt := 158) (pc1 := 27) (pc := 24) k_M_worked_24 rfl rfl (by decide) ?_
        | refine T_icmp_ge (tgt := 158) (pc1 := 27) (pc := 24) k_M_worked_24 rfl rfl (fun hc => ?_) (fun hc => ?_)
        | refine T_aload_n (pc1 := 28) (pc := 27) k_M_worked_27 rfl rfl ?_
        | refine T_aload_nN (pc1 := 28) (pc := 27) k_M_worked_27 rfl rfl ?_
        | refine T_getR (pc1 := 31) (pc := 28) k_M_worked_28 rfl f_M_9 rfl (by first | exact ga G (by decide) rfl | assumption) (by first | exact gr G (by decide) rfl | assumption) ?_
        | refine T_iload_n (pc1 := 32) (pc := 31) k_M_worked_31 rfl rfl ?_
        | refine T_iconst (v := (nI 3)) (pc1 := 33) (pc := 32) k_M_worked_32 rfl (by decide) ?_
        | with_reducible refine T_iaddN (pc1 := 34) (pc := 33) k_M_worked_33 (by decide) ?_
        | refine T_iadd (pc1 := 34) (pc := 33) k_M_worked_33 rfl ?_
        | refine T_iload (pc1 := 36) (pc := 34) k_M_worked_34 rfl rfl ?_
        | with_reducible refine T_iaddN (pc1 := 37) (pc := 36) k_M_worked_36 (by decide) ?_
        | refine T_iadd (pc1 := 37) (pc := 36) k_M_worked_36 rfl ?_
        | refine T_ialdN (pc1 := 38) (pc := 37) k_M_worked_37 rfl (by first | exact ga G (by decide) rfl | assumption) (by omega) (by omega) (by first | assumption | (simp (disch := omega) only [pI_eq, pI_row, pI_col, va_up_self, va_up_ne, ne_eq, not_false_eq_true] <;> rfl) | rfl) ?_
        | refine T_iald (pc1 := 38) (pc := 37) k_M_worked_37 rfl (by first | exact ga G (by decide) rfl | assumption) (by assumption) ?_
        | refine T_istore (pc1 := 40) (pc := 38) k_M_worked_38 rfl (Nat.le_of_ble_eq_true rfl) ?_
        | refine T_iload (pc1 := 42) (pc := 40) k_M_worked_40 rfl rfl ?_
        | (with_reducible refine T_if_ltN (tgt := 59) (pc1 := 45) (pc := 42) k_M_worked_42 (by decide) (by decide) (by omega) ?_ <;> first | (exfalso; omega) | skip)
        | refine T_if_lt_t (tgt := 59) (pc := 42) k_M_worked_42 rfl (by decide) ?_
        | refine T_if_lt_f (tgt := 59) (pc1 := 45) (pc := 42) k_M_worked_42 rfl rfl (by decide) ?_
        | refine T_if_lt (tgt := 59) (pc1 := 45) (pc := 42) k_M_worked_42 rfl rfl (fun hc => ?_) (fun hc => ?_)
        | refine T_aload_n (pc1 := 46) (pc := 45) k_M_worked_45 rfl rfl ?_
        | refine T_aload_nN (pc1 := 46) (pc := 45) k_M_worked_45 rfl rfl ?_
        | refine T_getR (pc1 := 49) (pc := 46) k_M_worked_46 rfl f_M_58 rfl (by first | exact ga G (by decide) rfl | assumption) (by first | exact gr G (by decide) rfl | assumption) ?_
        | refine T_iload_n (pc1 := 50) (pc := 49) k_M_worked_49 rfl rfl ?_
        | refine T_iload (pc1 := 52) (pc := 50) k_M_worked_50 rfl rfl ?_
        | refine T_iastN (pc1 := 53) (pc := 52) k_M_worked_52 rfl (by first | exact ga G (by decide) rfl | assumption) (by omega) (by omega) ?_
        | refine T_iincN (b := 1) (pc1 := 56) (pc := 53) k_M_worked_53 rfl rfl (by decide) ?_
        | refine T_iinc (v := (nI 1)) (pc1 := 56) (pc := 53) k_M_worked_53 rfl rfl (by decide) ?_
        | refine T_goto (tgt := 152) (pc := 56) k_M_worked_56 rfl ?_
        | refine T_iload (pc1 := 61) (pc := 59) k_M_worked_59 rfl rfl ?_
        | refine T_bipush (v := (-10)) (pc1 := 63) (pc := 61) k_M_worked_61 rfl (by decide) ?_
        | (with_reducible refine T_icmp_ltN (tgt := 88) (pc1 := 66) (pc := 63) k_M_worked_63 (by decide) (by decide) (by omega) (by omega) (fun hc => ?_) (fun hc => ?_) <;> first | (exfalso; omega) | skip)
        | refine T_icmp_lt_t (tgt := 88) (pc := 63) k_M_worked_63 rfl (by decide) ?_
        | refine T_icmp_lt_f (tgt := 88) (pc1 := 66) (pc := 63) k_M_worked_63 rfl rfl (by decide) ?_
        | refine T_icmp_lt (tgt := 88) (pc1 := 66) (pc := 63) k_M_worked_63 rfl rfl (fun hc => ?_) (fun hc => ?_)
        | refine T_aload_n (pc1 := 67) (pc := 66) k_M_worked_66 rfl rfl ?_
        | refine T_aload_nN (pc1 := 67) (pc := 66) k_M_worked_66 rfl rfl ?_
        | refine T_getR (pc1 := 70) (pc := 67) k_M_worked_67 rfl f_M_58 rfl (by first | exact ga G (by decide) rfl | assumption) (by first | exact gr G (by decide) rfl | assumption) ?_
        | refine T_iload_n (pc1 := 71) (pc := 70) k_M_worked_70 rfl rfl ?_
        | refine T_aload_n (pc1 := 72) (pc := 71) k_M_worked_71 rfl rfl ?_
        | refine T_aload_nN (pc1 := 72) (pc := 71) k_M_worked_71 rfl rfl ?_
        | refine T_getR (pc1 := 75) (pc := 72) k_M_worked_72 rfl f_M_55 rfl (by first | exact ga G (by decide) rfl | assumption) (by first | exact gr G (by decide) rfl | assumption) ?_
        | refine T_iload (pc1 := 77) (pc := 75) k_M_worked_75 rfl rfl ?_
        | refine T_bipush (v := (-10)) (pc1 := 79) (pc := 77) k_M_worked_77 rfl (by decide) ?_
        | with_reducible refine T_isubN (pc1 := 80) (pc := 79) k_M_worked_79 (by decide) (by omega) ?_
        | refine T_isub (pc1 := 80) (pc := 79) k_M_worked_79 rfl ?_
        | refine T_ialdN (pc1 := 81) (pc := 80) k_M_worked_80 rfl (by first | exact ga G (by decide) rfl | assumption) (by omega) (by omega) (by first | assumption | (simp (disch := omega) only [pI_eq, pI_row, pI_col, va_up_self, va_up_ne, ne_eq, not_false_eq_true] <;> rfl) | rfl) ?_
        | refine T_iald (pc1 := 81) (pc := 80) k_M_worked_80 rfl (by first | exact ga G (by decide) rfl | assumption) (by assumption) ?_
        | refine T_iastN (pc1 := 82) (pc := 81) k_M_worked_81 rfl (by first | exact ga G (by decide) rfl | assumption) (by omega) (by omega) ?_
        | refine T_iincN (b := 1) (pc1 := 85) (pc := 82) k_M_worked_82 rfl rfl (by decide) ?_
        | refine T_iinc (v := (nI 1)) (pc1 := 85) (pc := 82) k_M_worked_82 rfl rfl (by decide) ?_
        | refine T_goto (tgt := 152) (pc := 85) k_M_worked_85 rfl ?_
        | refine T_iload (pc1 := 90) (pc := 88) k_M_worked_88 rfl rfl ?_
        | refine T_bipush (v := (-29)) (pc1 := 92) (pc := 90) k_M_worked_90 rfl (by decide) ?_
        | (with_reducible refine T_icmp_neN (tgt := 122) (pc1 := 95) (pc := 92) k_M_worked_92 (by decide) (by decide) (by omega) (by omega) (fun hc => ?_) (fun hc => ?_) <;> first | (exfalso; omega) | skip)
        | refine T_icmp_ne_t (tgt := 122) (pc := 92) k_M_worked_92 rfl (by decide) ?_
        | refine T_icmp_ne_f (tgt := 122) (pc1 := 95) (pc := 92) k_M_worked_92 rfl rfl (by decide) ?_
        | refine T_icmp_ne (tgt := 122) (pc1 := 95) (pc := 92) k_M_worked_92 rfl rfl (fun hc => ?_) (fun hc => ?_)
        | refine T_aload_n (pc1 := 96) (pc := 95) k_M_worked_95 rfl rfl ?_
        | refine T_aload_nN (pc1 := 96) (pc := 95) k_M_worked_95 rfl rfl ?_
        | refine T_getR (pc1 := 99) (pc := 96) k_M_worked_96 rfl f_M_58 rfl (by first | exact ga G (by decide) rfl | assumption) (by first | exact gr G (by decide) rfl | assumption) ?_
        | refine T_iload_n (pc1 := 100) (pc := 99) k_M_worked_99 rfl rfl ?_
        | refine T_iconst (v := (nI 1)) (pc1 := 101) (pc := 100) k_M_worked_100 rfl (by decide) ?_
        | with_reducible refine T_isubN (pc1 := 102) (pc := 101) k_M_worked_101 (by decide) (by omega) ?_
        | refine T_isub (pc1 := 102) (pc := 101) k_M_worked_101 rfl ?_
        | refine T_aload_n (pc1 := 103) (pc := 102) k_M_worked_102 rfl rfl ?_
        | refine T_aload_nN (pc1 := 103) (pc := 102) k_M_worked_102 rfl rfl ?_
        | refine T_getR (pc1 := 106) (pc := 103) k_M_worked_103 rfl f_M_58 rfl (by first | exact ga G (by decide) rfl | assumption) (by first | exact gr G (by decide) rfl | assumption) ?_
        | refine T_iload_n (pc1 := 107) (pc := 106) k_M_worked_106 rfl rfl ?_
        | refine T_iconst (v := (nI 1)) (pc1 := 108) (pc := 107) k_M_worked_107 rfl (by decide) ?_
        | with_reducible refine T_isubN (pc1 := 109) (pc := 108) k_M_worked_108 (by decide) (by omega) ?_
        | refine T_isub (pc1 := 109) (pc := 108) k_M_worked_108 rfl ?_
        | refine T_ialdN (pc1 := 110) (pc := 109) k_M_worked_109 rfl (by first | exact ga G (by decide) rfl | assumption) (by omega) (by omega) (by first | assumption | (simp (disch := omega) only [pI_eq, pI_row, pI_col, va_up_self, va_up_ne, ne_eq, not_false_eq_true] <;> rfl) | rfl) ?_
        | refine T_iald (pc1 := 110) (pc := 109) k_M_worked_109 rfl (by first | exact ga G (by decide) rfl | assumption) (by assumption) ?_
        | (with_reducible refine T_if_neN (tgt := 117) (pc1 := 113) (pc := 110) k_M_worked_110 (by decide) (by decide) (by omega) (fun hc => ?_) (fun hc => ?_) <;> first | (exfalso; omega) | skip)
        | refine T_if_ne_t (tgt := 117) (pc := 110) k_M_worked_110 rfl (by decide) ?_
        | refine T_if_ne_f (tgt := 117) (pc1 := 113) (pc := 110) k_M_worked_110 rfl rfl (by decide) ?_
        | refine T_if_ne (tgt := 117) (pc1 := 113) (pc := 110) k_M_worked_110 rfl rfl (fun hc => ?_) (fun hc => ?_)
        | refine T_iconst (v := (nI 1)) (pc1 := 114) (pc := 113) k_M_worked_113 rfl (by decide) ?_
        | refine T_goto (tgt := 118) (pc := 114) k_M_worked_114 rfl ?_
        | refine T_iconst (v := (nI 0)) (pc1 := 118) (pc := 117) k_M_worked_117 rfl (by decide) ?_
        | refine T_iastN (pc1 := 119) (pc := 118) k_M_worked_118 rfl (by first | exact ga G (by decide) rfl | assumption) (by omega) (by omega) ?_
        | refine T_goto (tgt := 152) (pc := 119) k_M_worked_119 rfl ?_
        | refine T_iinc (v := (-1)) (pc1 := 125) (pc := 122) k_M_worked_122 rfl rfl (by decide) ?_
        | refine T_aload_n (pc1 := 126) (pc := 125) k_M_worked_125 rfl rfl ?_
        | refine T_aload_nN (pc1 := 126) (pc := 125) k_M_worked_125 rfl rfl ?_
        | refine T_getR (pc1 := 129) (pc := 126) k_M_worked_126 rfl f_M_58 rfl (by first | exact ga G (by decide) rfl | assumption) (by first | exact gr G (by decide) rfl | assumption) ?_
        | refine T_iload_n (pc1 := 130) (pc := 129) k_M_worked_129 rfl rfl ?_
        | refine T_iconst (v := (nI 1)) (pc1 := 131) (pc := 130) k_M_worked_130 rfl (by decide) ?_
        | with_reducible refine T_isubN (pc1 := 132) (pc := 131) k_M_worked_131 (by decide) (by omega) ?_
        | refine T_isub (pc1 := 132) (pc := 131) k_M_worked_131 rfl ?_
        | refine T_iload (pc1 := 134) (pc := 132) k_M_worked_132 rfl rfl ?_
        | refine T_aload_n (pc1 := 135) (pc := 134) k_M_worked_134 rfl rfl ?_
        | refine T_aload_nN (pc1 := 135) (pc := 134) k_M_worked_134 rfl rfl ?_
        | refine T_getR (pc1 := 138) (pc := 135) k_M_worked_135 rfl f_M_58 rfl (by first | exact ga G (by decide) rfl | assumption) (by first | exact gr G (by decide) rfl | assumption) ?_
        | refine T_iload_n (pc1 := 139) (pc := 138) k_M_worked_138 rfl rfl ?_
        | refine T_iconst (v := (nI 1)) (pc1 := 140) (pc := 139) k_M_worked_139 rfl (by decide) ?_
        | with_reducible refine T_isubN (pc1 := 141) (pc := 140) k_M_worked_140 (by decide) (by omega) ?_
        | refine T_isub (pc1 := 141) (pc := 140) k_M_worked_140 rfl ?_
        | refine T_ialdN (pc1 := 142) (pc := 141) k_M_worked_141 rfl (by first | exact ga G (by decide) rfl | assumption) (by omega) (by omega) (by first | assumption | (simp (disch := omega) only [pI_eq, pI_row, pI_col, va_up_self, va_up_ne, ne_eq, not_false_eq_true] <;> rfl) | rfl) ?_
        | refine T_iald (pc1 := 142) (pc := 141) k_M_worked_141 rfl (by first | exact ga G (by decide) rfl | assumption) (by assumption) ?_
        | refine T_aload_n (pc1 := 143) (pc := 142) k_M_worked_142 rfl rfl ?_
        | refine T_aload_nN (pc1 := 143) (pc := 142) k_M_worked_142 rfl rfl ?_
        | refine T_getR (pc1 := 146) (pc := 143) k_M_worked_143 rfl f_M_58 rfl (by first | exact ga G (by decide) rfl | assumption) (by first | exact gr G (by decide) rfl | assumption) ?_
        | refine T_iload_n (pc1 := 147) (pc := 146) k_M_worked_146 rfl rfl ?_
        | refine T_ialdN (pc1 := 148) (pc := 147) k_M_worked_147 rfl (by first | exact ga G (by decide) rfl | assumption) (by omega) (by omega) (by first | assumption | (simp (disch := omega) only [pI_eq, pI_row, pI_col, va_up_self, va_up_ne, ne_eq, not_false_eq_true] <;> rfl) | rfl) ?_
        | refine T_iald (pc1 := 148) (pc := 147) k_M_worked_147 rfl (by first | exact ga G (by decide) rfl | assumption) (by assumption) ?_
        | (refine T_cS (As := [_, _, _]) (d1 := 1) (pc1 := 151) (pc := 148) k_M_worked_148 rfl (by decide) (Nat.le_of_ble_eq_true rfl) rfl o_M_done l_M_293 rfl (c_M_done (fun r hr => ?_)) <;> try dsimp only [psh])
        | refine T_iastN (pc1 := 152) (pc := 151) k_M_worked_151 rfl (by first | exact ga G (by decide) rfl | assumption) (by omega) (by omega) ?_
        | refine T_iincN (b := 1) (pc1 := 155) (pc := 152) k_M_worked_152 rfl rfl (by decide) ?_
        | refine T_iinc (v := (nI 1)) (pc1 := 155) (pc := 152) k_M_worked_152 rfl rfl (by decide) ?_
        | refine T_goto (tgt := 14) (pc := 155) k_M_worked_155 rfl ?_
        | refine T_aload_n (pc1 := 159) (pc := 158) k_M_worked_158 rfl rfl ?_
        | refine T_aload_nN (pc1 := 159) (pc := 158) k_M_worked_158 rfl rfl ?_
        | refine T_getR (pc1 := 162) (pc := 159) k_M_worked_159 rfl f_M_58 rfl (by first | exact ga G (by decide) rfl | assumption) (by first | exact gr G (by decide) rfl | assumption) ?_
        | refine T_iconst (v := (nI 0)) (pc1 := 163) (pc := 162) k_M_worked_162 rfl (by decide) ?_
        | refine T_ialdN (pc1 := 164) (pc := 163) k_M_worked_163 rfl (by first | exact ga G (by decide) rfl | assumption) (by omega) (by omega) (by first | assumption | (simp (disch := omega) only [pI_eq, pI_row, pI_col, va_up_self, va_up_ne, ne_eq, not_false_eq_true] <;> rfl) | rfl) ?_
        | refine T_iald (pc1 := 164) (pc := 163) k_M_worked_163 rfl (by first | exact ga G (by decide) rfl | assumption) (by assumption) ?_
        | refine T_retI (pc := 164) k_M_worked_164 rfl (by first | rfl | decide | assumption) ?_)
      exact kk J hJ
    | succ r ih =>
      intro k o5 J hk hJ hp
      have hJN : J 102 = N := (hJ 102 (by decide)).trans hN
      have hJM : J 112 = nm := (hJ 112 (by decide)).trans hnm
      have hm1 : J 102 (156 + 100 * t + 2) = nI m := by rw [hJN, show 156 + 100 * t + 2 = 158 + 100 * t by omega]; exact hm
      have hc1 : J 102 (156 + 100 * t + 3 + k) = cod N t k := by rw [hJN]; unfold cod; rw [show 156 + 100 * t + 3 + k = 159 + 100 * t + k by omega]
      have hd := dp_le ok k (by omega)
      obtain ⟨o1, o2, o3⟩ := ok.1 k (by omega)
      have ih := ih (k + 1)
      rw [dp] at ih
      generalize hx : cod N t k = x at *
      generalize hdd : dp (cod N t) k = p at *
      refine T_iload (pc1 := 16) (pc := 14) k_M_worked_14 rfl rfl ?_
      repeat' (first
        | refine T_sipush (v := (nI 156)) (pc1 := 3) (pc := 0) k_M_worked_0 rfl (by decide) ?_
        | refine T_bipush (v := (nI 100)) (pc1 := 5) (pc := 3) k_M_worked_3 rfl (by decide) ?_
        | refine T_iload_n (pc1 := 6) (pc := 5) k_M_worked_5 rfl rfl ?_
        | with_reducible refine T_imulN (pc1 := 7) (pc := 6) k_M_worked_6 (by decide) ?_
        | refine T_imul (pc1 := 7) (pc := 6) k_M_worked_6 rfl ?_
        | with_reducible refine T_iaddN (pc1 := 8) (pc := 7) k_M_worked_7 (by decide) ?_
        | refine T_iadd (pc1 := 8) (pc := 7) k_M_worked_7 rfl ?_
        | refine T_istore_n (pc1 := 9) (pc := 8) k_M_worked_8 rfl (Nat.le_of_ble_eq_true rfl) ?_
        | refine T_iconst (v := (nI 0)) (pc1 := 10) (pc := 9) k_M_worked_9 rfl (by decide) ?_
        | refine T_istore_n (pc1 := 11) (pc := 10) k_M_worked_10 rfl (Nat.le_of_ble_eq_true rfl) ?_
        | refine T_iconst (v := (nI 0)) (pc1 := 12) (pc := 11) k_M_worked_11 rfl (by decide) ?_
        | refine T_istore (pc1 := 14) (pc := 12) k_M_worked_12 rfl (Nat.le_of_ble_eq_true rfl) ?_
        | refine T_aload_n (pc1 := 17) (pc := 16) k_M_worked_16 rfl rfl ?_
        | refine T_aload_nN (pc1 := 17) (pc := 16) k_M_worked_16 rfl rfl ?_
        | refine T_getR (pc1 := 20) (pc := 17) k_M_worked_17 rfl f_M_9 rfl (by first | exact ga G (by decide) rfl | assumption) (by first | exact gr G (by decide) rfl | assumption) ?_
        | refine T_iload_n (pc1 := 21) (pc := 20) k_M_worked_20 rfl rfl ?_
        | refine T_iconst (v := (nI 2)) (pc1 := 22) (pc := 21) k_M_worked_21 rfl (by decide) ?_
        | with_reducible refine T_iaddN (pc1 := 23) (pc := 22) k_M_worked_22 (by decide) ?_
        | refine T_iadd (pc1 := 23) (pc := 22) k_M_worked_22 rfl ?_
        | refine T_ialdN (pc1 := 24) (pc := 23) k_M_worked_23 rfl (by first | exact ga G (by decide) rfl | assumption) (by omega) (by omega) (by first | assumption | (simp (disch := omega) only [pI_eq, pI_row, pI_col, va_up_self, va_up_ne, ne_eq, not_false_eq_true] <;> rfl) | rfl) ?_
        | refine T_iald (pc1 := 24) (pc := 23) k_M_worked_23 rfl (by first | exact ga G (by decide) rfl | assumption) (by assumption) ?_
        | (with_reducible refine T_icmp_geN (tgt := 158) (pc1 := 27) (pc := 24) k_M_worked_24 (by decide) (by decide) (by omega) (by omega) (fun hc => ?_) (fun hc => ?_) <;> first | (exfalso; omega) | skip)
        | refine T_icmp_ge_t (tgt := 158) (pc := 24) k_M_worked_24 rfl (by decide) ?_
        | refine T_icmp_ge_f (tgt := 158) (pc1 := 27) (pc := 24) k_M_worked_24 rfl rfl (by decide) ?_
        | refine T_icmp_ge (tgt := 158) (pc1 := 27) (pc := 24) k_M_worked_24 rfl rfl (fun hc => ?_) (fun hc => ?_)
        | refine T_aload_n (pc1 := 28) (pc := 27) k_M_worked_27 rfl rfl ?_
        | refine T_aload_nN (pc1 := 28) (pc := 27) k_M_worked_27 rfl rfl ?_
        | refine T_getR (pc1 := 31) (pc := 28) k_M_worked_28 rfl f_M_9 rfl (by first | exact ga G (by decide) rfl | assumption) (by first | exact gr G (by decide) rfl | assumption) ?_
        | refine T_iload_n (pc1 := 32) (pc := 31) k_M_worked_31 rfl rfl ?_
        | refine T_iconst (v := (nI 3)) (pc1 := 33) (pc := 32) k_M_worked_32 rfl (by decide) ?_
        | with_reducible refine T_iaddN (pc1 := 34) (pc := 33) k_M_worked_33 (by decide) ?_
        | refine T_iadd (pc1 := 34) (pc := 33) k_M_worked_33 rfl ?_
        | refine T_iload (pc1 := 36) (pc := 34) k_M_worked_34 rfl rfl ?_
        | with_reducible refine T_iaddN (pc1 := 37) (pc := 36) k_M_worked_36 (by decide) ?_
        | refine T_iadd (pc1 := 37) (pc := 36) k_M_worked_36 rfl ?_
        | refine T_ialdN (pc1 := 38) (pc := 37) k_M_worked_37 rfl (by first | exact ga G (by decide) rfl | assumption) (by omega) (by omega) (by first | assumption | (simp (disch := omega) only [pI_eq, pI_row, pI_col, va_up_self, va_up_ne, ne_eq, not_false_eq_true] <;> rfl) | rfl) ?_
        | refine T_iald (pc1 := 38) (pc := 37) k_M_worked_37 rfl (by first | exact ga G (by decide) rfl | assumption) (by assumption) ?_
        | refine T_istore (pc1 := 40) (pc := 38) k_M_worked_38 rfl (Nat.le_of_ble_eq_true rfl) ?_
        | refine T_iload (pc1 := 42) (pc := 40) k_M_worked_40 rfl rfl ?_
        | refine T_aload_n (pc1 := 46) (pc := 45) k_M_worked_45 rfl rfl ?_
        | refine T_aload_nN (pc1 := 46) (pc := 45) k_M_worked_45 rfl rfl ?_
        | refine T_getR (pc1 := 49) (pc := 46) k_M_worked_46 rfl f_M_58 rfl (by first | exact ga G (by decide) rfl | assumption) (by first | exact gr G (by decide) rfl | assumption) ?_
        | refine T_iload_n (pc1 := 50) (pc := 49) k_M_worked_49 rfl rfl ?_
        | refine T_iload (pc1 := 52) (pc := 50) k_M_worked_50 rfl rfl ?_
        | refine T_iastN (pc1 := 53) (pc := 52) k_M_worked_52 rfl (by first | exact ga G (by decide) rfl | assumption) (by omega) (by omega) ?_
        | refine T_iincN (b := 1) (pc1 := 56) (pc := 53) k_M_worked_53 rfl rfl (by decide) ?_
        | refine T_iinc (v := (nI 1)) (pc1 := 56) (pc := 53) k_M_worked_53 rfl rfl (by decide) ?_
        | refine T_goto (tgt := 152) (pc := 56) k_M_worked_56 rfl ?_
        | refine T_iload (pc1 := 61) (pc := 59) k_M_worked_59 rfl rfl ?_
        | refine T_bipush (v := (-10)) (pc1 := 63) (pc := 61) k_M_worked_61 rfl (by decide) ?_
        | (with_reducible refine T_icmp_ltN (tgt := 88) (pc1 := 66) (pc := 63) k_M_worked_63 (by decide) (by decide) (by omega) (by omega) (fun hc => ?_) (fun hc => ?_) <;> first | (exfalso; omega) | skip)
        | refine T_icmp_lt_t (tgt := 88) (pc := 63) k_M_worked_63 rfl (by decide) ?_
        | refine T_icmp_lt_f (tgt := 88) (pc1 := 66) (pc := 63) k_M_worked_63 rfl rfl (by decide) ?_
        | refine T_icmp_lt (tgt := 88) (pc1 := 66) (pc := 63) k_M_worked_63 rfl rfl (fun hc => ?_) (fun hc => ?_)
        | refine T_aload_n (pc1 := 67) (pc := 66) k_M_worked_66 rfl rfl ?_
        | refine T_aload_nN (pc1 := 67) (pc := 66) k_M_worked_66 rfl rfl ?_
        | refine T_getR (pc1 := 70) (pc := 67) k_M_worked_67 rfl f_M_58 rfl (by first | exact ga G (by decide) rfl | assumption) (by first | exact gr G (by decide) rfl | assumption) ?_
        | refine T_iload_n (pc1 := 71) (pc := 70) k_M_worked_70 rfl rfl ?_
        | refine T_aload_n (pc1 := 72) (pc := 71) k_M_worked_71 rfl rfl ?_
        | refine T_aload_nN (pc1 := 72) (pc := 71) k_M_worked_71 rfl rfl ?_
        | refine T_getR (pc1 := 75) (pc := 72) k_M_worked_72 rfl f_M_55 rfl (by first | exact ga G (by decide) rfl | assumption) (by first | exact gr G (by decide) rfl | assumption) ?_
        | refine T_iload (pc1 := 77) (pc := 75) k_M_worked_75 rfl rfl ?_
        | refine T_bipush (v := (-10)) (pc1 := 79) (pc := 77) k_M_worked_77 rfl (by decide) ?_
        | with_reducible refine T_isubN (pc1 := 80) (pc := 79) k_M_worked_79 (by decide) (by omega) ?_
        | refine T_isub (pc1 := 80) (pc := 79) k_M_worked_79 rfl ?_
        | refine T_ialdN (pc1 := 81) (pc := 80) k_M_worked_80 rfl (by first | exact ga G (by decide) rfl | assumption) (by omega) (by omega) (by first | assumption | (simp (disch := omega) only [pI_eq, pI_row, pI_col, va_up_self, va_up_ne, ne_eq, not_false_eq_true] <;> rfl) | rfl) ?_
        | refine T_iald (pc1 := 81) (pc := 80) k_M_worked_80 rfl (by first | exact ga G (by decide) rfl | assumption) (by assumption) ?_
        | refine T_iastN (pc1 := 82) (pc := 81) k_M_worked_81 rfl (by first | exact ga G (by decide) rfl | assumption) (by omega) (by omega) ?_
        | refine T_iincN (b := 1) (pc1 := 85) (pc := 82) k_M_worked_82 rfl rfl (by decide) ?_
        | refine T_iinc (v := (nI 1)) (pc1 := 85) (pc := 82) k_M_worked_82 rfl rfl (by decide) ?_
        | refine T_goto (tgt := 152) (pc := 85) k_M_worked_85 rfl ?_
        | refine T_iload (pc1 := 90) (pc := 88) k_M_worked_88 rfl rfl ?_
        | refine T_bipush (v := (-29)) (pc1 := 92) (pc := 90) k_M_worked_90 rfl (by decide) ?_
        | (with_reducible refine T_icmp_neN (tgt := 122) (pc1 := 95) (pc := 92) k_M_worked_92 (by decide) (by decide) (by omega) (by omega) (fun hc => ?_) (fun hc => ?_) <;> first | (exfalso; omega) | skip)
        | refine T_icmp_ne_t (tgt := 122) (pc := 92) k_M_worked_92 rfl (by decide) ?_
        | refine T_icmp_ne_f (tgt := 122) (pc1 := 95) (pc := 92) k_M_worked_92 rfl rfl (by decide) ?_
        | refine T_icmp_ne (tgt := 122) (pc1 := 95) (pc := 92) k_M_worked_92 rfl rfl (fun hc => ?_) (fun hc => ?_)
        | refine T_aload_n (pc1 := 96) (pc := 95) k_M_worked_95 rfl rfl ?_
        | refine T_aload_nN (pc1 := 96) (pc := 95) k_M_worked_95 rfl rfl ?_
        | refine T_getR (pc1 := 99) (pc := 96) k_M_worked_96 rfl f_M_58 rfl (by first | exact ga G (by decide) rfl | assumption) (by first | exact gr G (by decide) rfl | assumption) ?_
        | refine T_iload_n (pc1 := 100) (pc := 99) k_M_worked_99 rfl rfl ?_
        | refine T_iconst (v := (nI 1)) (pc1 := 101) (pc := 100) k_M_worked_100 rfl (by decide) ?_
        | with_reducible refine T_isubN (pc1 := 102) (pc := 101) k_M_worked_101 (by decide) (by omega) ?_
        | refine T_isub (pc1 := 102) (pc := 101) k_M_worked_101 rfl ?_
        | refine T_aload_n (pc1 := 103) (pc := 102) k_M_worked_102 rfl rfl ?_
        | refine T_aload_nN (pc1 := 103) (pc := 102) k_M_worked_102 rfl rfl ?_
        | refine T_getR (pc1 := 106) (pc := 103) k_M_worked_103 rfl f_M_58 rfl (by first | exact ga G (by decide) rfl | assumption) (by first | exact gr G (by decide) rfl | assumption) ?_
        | refine T_iload_n (pc1 := 107) (pc := 106) k_M_worked_106 rfl rfl ?_
        | refine T_iconst (v := (nI 1)) (pc1 := 108) (pc := 107) k_M_worked_107 rfl (by decide) ?_
        | with_reducible refine T_isubN (pc1 := 109) (pc := 108) k_M_worked_108 (by decide) (by omega) ?_
        | refine T_isub (pc1 := 109) (pc := 108) k_M_worked_108 rfl ?_
        | refine T_ialdN (pc1 := 110) (pc := 109) k_M_worked_109 rfl (by first | exact ga G (by decide) rfl | assumption) (by omega) (by omega) (by first | assumption | (simp (disch := omega) only [pI_eq, pI_row, pI_col, va_up_self, va_up_ne, ne_eq, not_false_eq_true] <;> rfl) | rfl) ?_
        | refine T_iald (pc1 := 110) (pc := 109) k_M_worked_109 rfl (by first | exact ga G (by decide) rfl | assumption) (by assumption) ?_
        | (with_reducible refine T_if_neN (tgt := 117) (pc1 := 113) (pc := 110) k_M_worked_110 (by decide) (by decide) (by omega) (fun hc => ?_) (fun hc => ?_) <;> first | (exfalso; omega) | skip)
        | refine T_if_ne_t (tgt := 117) (pc := 110) k_M_worked_110 rfl (by decide) ?_
        | refine T_if_ne_f (tgt := 117) (pc1 := 113) (pc := 110) k_M_worked_110 rfl rfl (by decide) ?_
        | refine T_if_ne (tgt := 117) (pc1 := 113) (pc := 110) k_M_worked_110 rfl rfl (fun hc => ?_) (fun hc => ?_)
        | refine T_iconst (v := (nI 1)) (pc1 := 114) (pc := 113) k_M_worked_113 rfl (by decide) ?_
        | refine T_goto (tgt := 118) (pc := 114) k_M_worked_114 rfl ?_
        | refine T_iconst (v := (nI 0)) (pc1 := 118) (pc := 117) k_M_worked_117 rfl (by decide) ?_
        | refine T_iastN (pc1 := 119) (pc := 118) k_M_worked_118 rfl (by first | exact ga G (by decide) rfl | assumption) (by omega) (by omega) ?_
        | refine T_goto (tgt := 152) (pc := 119) k_M_worked_119 rfl ?_
        | refine T_iinc (v := (-1)) (pc1 := 125) (pc := 122) k_M_worked_122 rfl rfl (by decide) ?_
        | refine T_aload_n (pc1 := 126) (pc := 125) k_M_worked_125 rfl rfl ?_
        | refine T_aload_nN (pc1 := 126) (pc := 125) k_M_worked_125 rfl rfl ?_
        | refine T_getR (pc1 := 129) (pc := 126) k_M_worked_126 rfl f_M_58 rfl (by first | exact ga G (by decide) rfl | assumption) (by first | exact gr G (by decide) rfl | assumption) ?_
        | refine T_iload_n (pc1 := 130) (pc := 129) k_M_worked_129 rfl rfl ?_
        | refine T_iconst (v := (nI 1)) (pc1 := 131) (pc := 130) k_M_worked_130 rfl (by decide) ?_
        | with_reducible refine T_isubN (pc1 := 132) (pc := 131) k_M_worked_131 (by decide) (by omega) ?_
        | refine T_isub (pc1 := 132) (pc := 131) k_M_worked_131 rfl ?_
        | refine T_iload (pc1 := 134) (pc := 132) k_M_worked_132 rfl rfl ?_
        | refine T_aload_n (pc1 := 135) (pc := 134) k_M_worked_134 rfl rfl ?_
        | refine T_aload_nN (pc1 := 135) (pc := 134) k_M_worked_134 rfl rfl ?_
        | refine T_getR (pc1 := 138) (pc := 135) k_M_worked_135 rfl f_M_58 rfl (by first | exact ga G (by decide) rfl | assumption) (by first | exact gr G (by decide) rfl | assumption) ?_
        | refine T_iload_n (pc1 := 139) (pc := 138) k_M_worked_138 rfl rfl ?_
        | refine T_iconst (v := (nI 1)) (pc1 := 140) (pc := 139) k_M_worked_139 rfl (by decide) ?_
        | with_reducible refine T_isubN (pc1 := 141) (pc := 140) k_M_worked_140 (by decide) (by omega) ?_
        | refine T_isub (pc1 := 141) (pc := 140) k_M_worked_140 rfl ?_
        | refine T_ialdN (pc1 := 142) (pc := 141) k_M_worked_141 rfl (by first | exact ga G (by decide) rfl | assumption) (by omega) (by omega) (by first | assumption | (simp (disch := omega) only [pI_eq, pI_row, pI_col, va_up_self, va_up_ne, ne_eq, not_false_eq_true] <;> rfl) | rfl) ?_
        | refine T_iald (pc1 := 142) (pc := 141) k_M_worked_141 rfl (by first | exact ga G (by decide) rfl | assumption) (by assumption) ?_
        | refine T_aload_n (pc1 := 143) (pc := 142) k_M_worked_142 rfl rfl ?_
        | refine T_aload_nN (pc1 := 143) (pc := 142) k_M_worked_142 rfl rfl ?_
        | refine T_getR (pc1 := 146) (pc := 143) k_M_worked_143 rfl f_M_58 rfl (by first | exact ga G (by decide) rfl | assumption) (by first | exact gr G (by decide) rfl | assumption) ?_
        | refine T_iload_n (pc1 := 147) (pc := 146) k_M_worked_146 rfl rfl ?_
        | refine T_ialdN (pc1 := 148) (pc := 147) k_M_worked_147 rfl (by first | exact ga G (by decide) rfl | assumption) (by omega) (by omega) (by first | assumption | (simp (disch := omega) only [pI_eq, pI_row, pI_col, va_up_self, va_up_ne, ne_eq, not_false_eq_true] <;> rfl) | rfl) ?_
        | refine T_iald (pc1 := 148) (pc := 147) k_M_worked_147 rfl (by first | exact ga G (by decide) rfl | assumption) (by assumption) ?_
        | (refine T_cS (As := [_, _, _]) (d1 := 1) (pc1 := 151) (pc := 148) k_M_worked_148 rfl (by decide) (Nat.le_of_ble_eq_true rfl) rfl o_M_done l_M_293 rfl (c_M_done (fun r hr => ?_)) <;> try dsimp only [psh])
        | refine T_iastN (pc1 := 152) (pc := 151) k_M_worked_151 rfl (by first | exact ga G (by decide) rfl | assumption) (by omega) (by omega) ?_
        | refine T_iincN (b := 1) (pc1 := 155) (pc := 152) k_M_worked_152 rfl rfl (by decide) ?_
        | refine T_iinc (v := (nI 1)) (pc1 := 155) (pc := 152) k_M_worked_152 rfl rfl (by decide) ?_
        | refine T_goto (tgt := 14) (pc := 155) k_M_worked_155 rfl ?_
        | refine T_aload_n (pc1 := 159) (pc := 158) k_M_worked_158 rfl rfl ?_
        | refine T_aload_nN (pc1 := 159) (pc := 158) k_M_worked_158 rfl rfl ?_
        | refine T_getR (pc1 := 162) (pc := 159) k_M_worked_159 rfl f_M_58 rfl (by first | exact ga G (by decide) rfl | assumption) (by first | exact gr G (by decide) rfl | assumption) ?_
        | refine T_iconst (v := (nI 0)) (pc1 := 163) (pc := 162) k_M_worked_162 rfl (by decide) ?_
        | refine T_ialdN (pc1 := 164) (pc := 163) k_M_worked_163 rfl (by first | exact ga G (by decide) rfl | assumption) (by omega) (by omega) (by first | assumption | (simp (disch := omega) only [pI_eq, pI_row, pI_col, va_up_self, va_up_ne, ne_eq, not_false_eq_true] <;> rfl) | rfl) ?_
        | refine T_iald (pc1 := 164) (pc := 163) k_M_worked_163 rfl (by first | exact ga G (by decide) rfl | assumption) (by assumption) ?_
        | refine T_retI (pc := 164) k_M_worked_164 rfl (by first | rfl | decide | assumption) ?_)
      first | (with_reducible refine T_if_ltN (tgt := 59) (pc1 := 45) (pc := 42) k_M_worked_42 (by decide) (by decide) (by omega) ?_ <;> first | (exfalso; omega) | skip) | refine T_if_lt_t (tgt := 59) (pc := 42) k_M_worked_42 rfl (by decide) ?_ | refine T_if_lt_f (tgt := 59) (pc1 := 45) (pc := 42) k_M_worked_42 rfl rfl (by decide) ?_ | refine T_if_lt (tgt := 59) (pc1 := 45) (pc := 42) k_M_worked_42 rfl rfl (fun hc => ?_) (fun hc => ?_)
      all_goals skip
      · -- below 0
        have hn0 : ¬ (0 : Int32) ≤ x := Int32.not_le.mpr hc
        repeat' (first
          | refine T_sipush (v := (nI 156)) (pc1 := 3) (pc := 0) k_M_worked_0 rfl (by decide) ?_
          | refine T_bipush (v := (nI 100)) (pc1 := 5) (pc := 3) k_M_worked_3 rfl (by decide) ?_
          | refine T_iload_n (pc1 := 6) (pc := 5) k_M_worked_5 rfl rfl ?_
          | with_reducible refine T_imulN (pc1 := 7) (pc := 6) k_M_worked_6 (by decide) ?_
          | refine T_imul (pc1 := 7) (pc := 6) k_M_worked_6 rfl ?_
          | with_reducible refine T_iaddN (pc1 := 8) (pc := 7) k_M_worked_7 (by decide) ?_
          | refine T_iadd (pc1 := 8) (pc := 7) k_M_worked_7 rfl ?_
          | refine T_istore_n (pc1 := 9) (pc := 8) k_M_worked_8 rfl (Nat.le_of_ble_eq_true rfl) ?_
          | refine T_iconst (v := (nI 0)) (pc1 := 10) (pc := 9) k_M_worked_9 rfl (by decide) ?_
          | refine T_istore_n (pc1 := 11) (pc := 10) k_M_worked_10 rfl (Nat.le_of_ble_eq_true rfl) ?_
          | refine T_iconst (v := (nI 0)) (pc1 := 12) (pc := 11) k_M_worked_11 rfl (by decide) ?_
          | refine T_istore (pc1 := 14) (pc := 12) k_M_worked_12 rfl (Nat.le_of_ble_eq_true rfl) ?_
          | refine T_aload_n (pc1 := 17) (pc := 16) k_M_worked_16 rfl rfl ?_
          | refine T_aload_nN (pc1 := 17) (pc := 16) k_M_worked_16 rfl rfl ?_
          | refine T_getR (pc1 := 20) (pc := 17) k_M_worked_17 rfl f_M_9 rfl (by first | exact ga G (by decide) rfl | assumption) (by first | exact gr G (by decide) rfl | assumption) ?_
          | refine T_iload_n (pc1 := 21) (pc := 20) k_M_worked_20 rfl rfl ?_
          | refine T_iconst (v := (nI 2)) (pc1 := 22) (pc := 21) k_M_worked_21 rfl (by decide) ?_
          | with_reducible refine T_iaddN (pc1 := 23) (pc := 22) k_M_worked_22 (by decide) ?_
          | refine T_iadd (pc1 := 23) (pc := 22) k_M_worked_22 rfl ?_
          | refine T_ialdN (pc1 := 24) (pc := 23) k_M_worked_23 rfl (by first | exact ga G (by decide) rfl | assumption) (by omega) (by omega) (by first | assumption | (simp (disch := omega) only [pI_eq, pI_row, pI_col, va_up_self, va_up_ne, ne_eq, not_false_eq_true] <;> rfl) | rfl) ?_
          | refine T_iald (pc1 := 24) (pc := 23) k_M_worked_23 rfl (by first | exact ga G (by decide) rfl | assumption) (by assumption) ?_
          | (with_reducible refine T_icmp_geN (tgt := 158) (pc1 := 27) (pc := 24) k_M_worked_24 (by decide) (by decide) (by omega) (by omega) (fun hc => ?_) (fun hc => ?_) <;> first | (exfalso; omega) | skip)
          | refine T_icmp_ge_t (tgt := 158) (pc := 24) k_M_worked_24 rfl (by decide) ?_
          | refine T_icmp_ge_f (tgt := 158) (pc1 := 27) (pc := 24) k_M_worked_24 rfl rfl (by decide) ?_
          | refine T_icmp_ge (tgt := 158) (pc1 := 27) (pc := 24) k_M_worked_24 rfl rfl (fun hc => ?_) (fun hc => ?_)
          | refine T_aload_n (pc1 := 28) (pc := 27) k_M_worked_27 rfl rfl ?_
          | refine T_aload_nN (pc1 := 28) (pc := 27) k_M_worked_27 rfl rfl ?_
          | refine T_getR (pc1 := 31) (pc := 28) k_M_worked_28 rfl f_M_9 rfl (by first | exact ga G (by decide) rfl | assumption) (by first | exact gr G (by decide) rfl | assumption) ?_
          | refine T_iload_n (pc1 := 32) (pc := 31) k_M_worked_31 rfl rfl ?_
          | refine T_iconst (v := (nI 3)) (pc1 := 33) (pc := 32) k_M_worked_32 rfl (by decide) ?_
          | with_reducible refine T_iaddN (pc1 := 34) (pc := 33) k_M_worked_33 (by decide) ?_
          | refine T_iadd (pc1 := 34) (pc := 33) k_M_worked_33 rfl ?_
          | refine T_iload (pc1 := 36) (pc := 34) k_M_worked_34 rfl rfl ?_
          | with_reducible refine T_iaddN (pc1 := 37) (pc := 36) k_M_worked_36 (by decide) ?_
          | refine T_iadd (pc1 := 37) (pc := 36) k_M_worked_36 rfl ?_
          | refine T_ialdN (pc1 := 38) (pc := 37) k_M_worked_37 rfl (by first | exact ga G (by decide) rfl | assumption) (by omega) (by omega) (by first | assumption | (simp (disch := omega) only [pI_eq, pI_row, pI_col, va_up_self, va_up_ne, ne_eq, not_false_eq_true] <;> rfl) | rfl) ?_
          | refine T_iald (pc1 := 38) (pc := 37) k_M_worked_37 rfl (by first | exact ga G (by decide) rfl | assumption) (by assumption) ?_
          | refine T_istore (pc1 := 40) (pc := 38) k_M_worked_38 rfl (Nat.le_of_ble_eq_true rfl) ?_
          | refine T_iload (pc1 := 42) (pc := 40) k_M_worked_40 rfl rfl ?_
          | (with_reducible refine T_if_ltN (tgt := 59) (pc1 := 45) (pc := 42) k_M_worked_42 (by decide) (by decide) (by omega) ?_ <;> first | (exfalso; omega) | skip)
          | refine T_if_lt_t (tgt := 59) (pc := 42) k_M_worked_42 rfl (by decide) ?_
          | refine T_if_lt_f (tgt := 59) (pc1 := 45) (pc := 42) k_M_worked_42 rfl rfl (by decide) ?_
          | refine T_if_lt (tgt := 59) (pc1 := 45) (pc := 42) k_M_worked_42 rfl rfl (fun hc => ?_) (fun hc => ?_)
          | refine T_aload_n (pc1 := 46) (pc := 45) k_M_worked_45 rfl rfl ?_
          | refine T_aload_nN (pc1 := 46) (pc := 45) k_M_worked_45 rfl rfl ?_
          | refine T_getR (pc1 := 49) (pc := 46) k_M_worked_46 rfl f_M_58 rfl (by first | exact ga G (by decide) rfl | assumption) (by first | exact gr G (by decide) rfl | assumption) ?_
          | refine T_iload_n (pc1 := 50) (pc := 49) k_M_worked_49 rfl rfl ?_
          | refine T_iload (pc1 := 52) (pc := 50) k_M_worked_50 rfl rfl ?_
          | refine T_iastN (pc1 := 53) (pc := 52) k_M_worked_52 rfl (by first | exact ga G (by decide) rfl | assumption) (by omega) (by omega) ?_
          | refine T_iincN (b := 1) (pc1 := 56) (pc := 53) k_M_worked_53 rfl rfl (by decide) ?_
          | refine T_iinc (v := (nI 1)) (pc1 := 56) (pc := 53) k_M_worked_53 rfl rfl (by decide) ?_
          | refine T_goto (tgt := 152) (pc := 56) k_M_worked_56 rfl ?_
          | refine T_iload (pc1 := 61) (pc := 59) k_M_worked_59 rfl rfl ?_
          | refine T_bipush (v := (-10)) (pc1 := 63) (pc := 61) k_M_worked_61 rfl (by decide) ?_
          | refine T_aload_n (pc1 := 67) (pc := 66) k_M_worked_66 rfl rfl ?_
          | refine T_aload_nN (pc1 := 67) (pc := 66) k_M_worked_66 rfl rfl ?_
          | refine T_getR (pc1 := 70) (pc := 67) k_M_worked_67 rfl f_M_58 rfl (by first | exact ga G (by decide) rfl | assumption) (by first | exact gr G (by decide) rfl | assumption) ?_
          | refine T_iload_n (pc1 := 71) (pc := 70) k_M_worked_70 rfl rfl ?_
          | refine T_aload_n (pc1 := 72) (pc := 71) k_M_worked_71 rfl rfl ?_
          | refine T_aload_nN (pc1 := 72) (pc := 71) k_M_worked_71 rfl rfl ?_
          | refine T_getR (pc1 := 75) (pc := 72) k_M_worked_72 rfl f_M_55 rfl (by first | exact ga G (by decide) rfl | assumption) (by first | exact gr G (by decide) rfl | assumption) ?_
          | refine T_iload (pc1 := 77) (pc := 75) k_M_worked_75 rfl rfl ?_
          | refine T_bipush (v := (-10)) (pc1 := 79) (pc := 77) k_M_worked_77 rfl (by decide) ?_
          | with_reducible refine T_isubN (pc1 := 80) (pc := 79) k_M_worked_79 (by decide) (by omega) ?_
          | refine T_isub (pc1 := 80) (pc := 79) k_M_worked_79 rfl ?_
          | refine T_ialdN (pc1 := 81) (pc := 80) k_M_worked_80 rfl (by first | exact ga G (by decide) rfl | assumption) (by omega) (by omega) (by first | assumption | (simp (disch := omega) only [pI_eq, pI_row, pI_col, va_up_self, va_up_ne, ne_eq, not_false_eq_true] <;> rfl) | rfl) ?_
          | refine T_iald (pc1 := 81) (pc := 80) k_M_worked_80 rfl (by first | exact ga G (by decide) rfl | assumption) (by assumption) ?_
          | refine T_iastN (pc1 := 82) (pc := 81) k_M_worked_81 rfl (by first | exact ga G (by decide) rfl | assumption) (by omega) (by omega) ?_
          | refine T_iincN (b := 1) (pc1 := 85) (pc := 82) k_M_worked_82 rfl rfl (by decide) ?_
          | refine T_iinc (v := (nI 1)) (pc1 := 85) (pc := 82) k_M_worked_82 rfl rfl (by decide) ?_
          | refine T_goto (tgt := 152) (pc := 85) k_M_worked_85 rfl ?_
          | refine T_iload (pc1 := 90) (pc := 88) k_M_worked_88 rfl rfl ?_
          | refine T_bipush (v := (-29)) (pc1 := 92) (pc := 90) k_M_worked_90 rfl (by decide) ?_
          | (with_reducible refine T_icmp_neN (tgt := 122) (pc1 := 95) (pc := 92) k_M_worked_92 (by decide) (by decide) (by omega) (by omega) (fun hc => ?_) (fun hc => ?_) <;> first | (exfalso; omega) | skip)
          | refine T_icmp_ne_t (tgt := 122) (pc := 92) k_M_worked_92 rfl (by decide) ?_
          | refine T_icmp_ne_f (tgt := 122) (pc1 := 95) (pc := 92) k_M_worked_92 rfl rfl (by decide) ?_
          | refine T_icmp_ne (tgt := 122) (pc1 := 95) (pc := 92) k_M_worked_92 rfl rfl (fun hc => ?_) (fun hc => ?_)
          | refine T_aload_n (pc1 := 96) (pc := 95) k_M_worked_95 rfl rfl ?_
          | refine T_aload_nN (pc1 := 96) (pc := 95) k_M_worked_95 rfl rfl ?_
          | refine T_getR (pc1 := 99) (pc := 96) k_M_worked_96 rfl f_M_58 rfl (by first | exact ga G (by decide) rfl | assumption) (by first | exact gr G (by decide) rfl | assumption) ?_
          | refine T_iload_n (pc1 := 100) (pc := 99) k_M_worked_99 rfl rfl ?_
          | refine T_iconst (v := (nI 1)) (pc1 := 101) (pc := 100) k_M_worked_100 rfl (by decide) ?_
          | with_reducible refine T_isubN (pc1 := 102) (pc := 101) k_M_worked_101 (by decide) (by omega) ?_
          | refine T_isub (pc1 := 102) (pc := 101) k_M_worked_101 rfl ?_
          | refine T_aload_n (pc1 := 103) (pc := 102) k_M_worked_102 rfl rfl ?_
          | refine T_aload_nN (pc1 := 103) (pc := 102) k_M_worked_102 rfl rfl ?_
          | refine T_getR (pc1 := 106) (pc := 103) k_M_worked_103 rfl f_M_58 rfl (by first | exact ga G (by decide) rfl | assumption) (by first | exact gr G (by decide) rfl | assumption) ?_
          | refine T_iload_n (pc1 := 107) (pc := 106) k_M_worked_106 rfl rfl ?_
          | refine T_iconst (v := (nI 1)) (pc1 := 108) (pc := 107) k_M_worked_107 rfl (by decide) ?_
          | with_reducible refine T_isubN (pc1 := 109) (pc := 108) k_M_worked_108 (by decide) (by omega) ?_
          | refine T_isub (pc1 := 109) (pc := 108) k_M_worked_108 rfl ?_
          | refine T_ialdN (pc1 := 110) (pc := 109) k_M_worked_109 rfl (by first | exact ga G (by decide) rfl | assumption) (by omega) (by omega) (by first | assumption | (simp (disch := omega) only [pI_eq, pI_row, pI_col, va_up_self, va_up_ne, ne_eq, not_false_eq_true] <;> rfl) | rfl) ?_
          | refine T_iald (pc1 := 110) (pc := 109) k_M_worked_109 rfl (by first | exact ga G (by decide) rfl | assumption) (by assumption) ?_
          | (with_reducible refine T_if_neN (tgt := 117) (pc1 := 113) (pc := 110) k_M_worked_110 (by decide) (by decide) (by omega) (fun hc => ?_) (fun hc => ?_) <;> first | (exfalso; omega) | skip)
          | refine T_if_ne_t (tgt := 117) (pc := 110) k_M_worked_110 rfl (by decide) ?_
          | refine T_if_ne_f (tgt := 117) (pc1 := 113) (pc := 110) k_M_worked_110 rfl rfl (by decide) ?_
          | refine T_if_ne (tgt := 117) (pc1 := 113) (pc := 110) k_M_worked_110 rfl rfl (fun hc => ?_) (fun hc => ?_)
          | refine T_iconst (v := (nI 1)) (pc1 := 114) (pc := 113) k_M_worked_113 rfl (by decide) ?_
          | refine T_goto (tgt := 118) (pc := 114) k_M_worked_114 rfl ?_
          | refine T_iconst (v := (nI 0)) (pc1 := 118) (pc := 117) k_M_worked_117 rfl (by decide) ?_
          | refine T_iastN (pc1 := 119) (pc := 118) k_M_worked_118 rfl (by first | exact ga G (by decide) rfl | assumption) (by omega) (by omega) ?_
          | refine T_goto (tgt := 152) (pc := 119) k_M_worked_119 rfl ?_
          | refine T_iinc (v := (-1)) (pc1 := 125) (pc := 122) k_M_worked_122 rfl rfl (by decide) ?_
          | refine T_aload_n (pc1 := 126) (pc := 125) k_M_worked_125 rfl rfl ?_
          | refine T_aload_nN (pc1 := 126) (pc := 125) k_M_worked_125 rfl rfl ?_
          | refine T_getR (pc1 := 129) (pc := 126) k_M_worked_126 rfl f_M_58 rfl (by first | exact ga G (by decide) rfl | assumption) (by first | exact gr G (by decide) rfl | assumption) ?_
          | refine T_iload_n (pc1 := 130) (pc := 129) k_M_worked_129 rfl rfl ?_
          | refine T_iconst (v := (nI 1)) (pc1 := 131) (pc := 130) k_M_worked_130 rfl (by decide) ?_
          | with_reducible refine T_isubN (pc1 := 132) (pc := 131) k_M_worked_131 (by decide) (by omega) ?_
          | refine T_isub (pc1 := 132) (pc := 131) k_M_worked_131 rfl ?_
          | refine T_iload (pc1 := 134) (pc := 132) k_M_worked_132 rfl rfl ?_
          | refine T_aload_n (pc1 := 135) (pc := 134) k_M_worked_134 rfl rfl ?_
          | refine T_aload_nN (pc1 := 135) (pc := 134) k_M_worked_134 rfl rfl ?_
          | refine T_getR (pc1 := 138) (pc := 135) k_M_worked_135 rfl f_M_58 rfl (by first | exact ga G (by decide) rfl | assumption) (by first | exact gr G (by decide) rfl | assumption) ?_
          | refine T_iload_n (pc1 := 139) (pc := 138) k_M_worked_138 rfl rfl ?_
          | refine T_iconst (v := (nI 1)) (pc1 := 140) (pc := 139) k_M_worked_139 rfl (by decide) ?_
          | with_reducible refine T_isubN (pc1 := 141) (pc := 140) k_M_worked_140 (by decide) (by omega) ?_
          | refine T_isub (pc1 := 141) (pc := 140) k_M_worked_140 rfl ?_
          | refine T_ialdN (pc1 := 142) (pc := 141) k_M_worked_141 rfl (by first | exact ga G (by decide) rfl | assumption) (by omega) (by omega) (by first | assumption | (simp (disch := omega) only [pI_eq, pI_row, pI_col, va_up_self, va_up_ne, ne_eq, not_false_eq_true] <;> rfl) | rfl) ?_
          | refine T_iald (pc1 := 142) (pc := 141) k_M_worked_141 rfl (by first | exact ga G (by decide) rfl | assumption) (by assumption) ?_
          | refine T_aload_n (pc1 := 143) (pc := 142) k_M_worked_142 rfl rfl ?_
          | refine T_aload_nN (pc1 := 143) (pc := 142) k_M_worked_142 rfl rfl ?_
          | refine T_getR (pc1 := 146) (pc := 143) k_M_worked_143 rfl f_M_58 rfl (by first | exact ga G (by decide) rfl | assumption) (by first | exact gr G (by decide) rfl | assumption) ?_
          | refine T_iload_n (pc1 := 147) (pc := 146) k_M_worked_146 rfl rfl ?_
          | refine T_ialdN (pc1 := 148) (pc := 147) k_M_worked_147 rfl (by first | exact ga G (by decide) rfl | assumption) (by omega) (by omega) (by first | assumption | (simp (disch := omega) only [pI_eq, pI_row, pI_col, va_up_self, va_up_ne, ne_eq, not_false_eq_true] <;> rfl) | rfl) ?_
          | refine T_iald (pc1 := 148) (pc := 147) k_M_worked_147 rfl (by first | exact ga G (by decide) rfl | assumption) (by assumption) ?_
          | (refine T_cS (As := [_, _, _]) (d1 := 1) (pc1 := 151) (pc := 148) k_M_worked_148 rfl (by decide) (Nat.le_of_ble_eq_true rfl) rfl o_M_done l_M_293 rfl (c_M_done (fun r hr => ?_)) <;> try dsimp only [psh])
          | refine T_iastN (pc1 := 152) (pc := 151) k_M_worked_151 rfl (by first | exact ga G (by decide) rfl | assumption) (by omega) (by omega) ?_
          | refine T_iincN (b := 1) (pc1 := 155) (pc := 152) k_M_worked_152 rfl rfl (by decide) ?_
          | refine T_iinc (v := (nI 1)) (pc1 := 155) (pc := 152) k_M_worked_152 rfl rfl (by decide) ?_
          | refine T_goto (tgt := 14) (pc := 155) k_M_worked_155 rfl ?_
          | refine T_aload_n (pc1 := 159) (pc := 158) k_M_worked_158 rfl rfl ?_
          | refine T_aload_nN (pc1 := 159) (pc := 158) k_M_worked_158 rfl rfl ?_
          | refine T_getR (pc1 := 162) (pc := 159) k_M_worked_159 rfl f_M_58 rfl (by first | exact ga G (by decide) rfl | assumption) (by first | exact gr G (by decide) rfl | assumption) ?_
          | refine T_iconst (v := (nI 0)) (pc1 := 163) (pc := 162) k_M_worked_162 rfl (by decide) ?_
          | refine T_ialdN (pc1 := 164) (pc := 163) k_M_worked_163 rfl (by first | exact ga G (by decide) rfl | assumption) (by omega) (by omega) (by first | assumption | (simp (disch := omega) only [pI_eq, pI_row, pI_col, va_up_self, va_up_ne, ne_eq, not_false_eq_true] <;> rfl) | rfl) ?_
          | refine T_iald (pc1 := 164) (pc := 163) k_M_worked_163 rfl (by first | exact ga G (by decide) rfl | assumption) (by assumption) ?_
          | refine T_retI (pc := 164) k_M_worked_164 rfl (by first | rfl | decide | assumption) ?_)
        first | (with_reducible refine T_icmp_ltN (tgt := 88) (pc1 := 66) (pc := 63) k_M_worked_63 (by decide) (by decide) (by omega) (by omega) (fun hc => ?_) (fun hc => ?_) <;> first | (exfalso; omega) | skip) | refine T_icmp_lt_t (tgt := 88) (pc := 63) k_M_worked_63 rfl (by decide) ?_ | refine T_icmp_lt_f (tgt := 88) (pc1 := 66) (pc := 63) k_M_worked_63 rfl rfl (by decide) ?_ | refine T_icmp_lt (tgt := 88) (pc1 := 66) (pc := 63) k_M_worked_63 rfl rfl (fun hc => ?_) (fun hc => ?_)
        rotate_left
        · -- a name
          have h10 : (-10 : Int32) ≤ x := Int32.not_lt.mp (by assumption)
          obtain ⟨hp1, hq⟩ := o1 h10
          obtain ⟨q, hq1, hq2⟩ := rg_of (hq (by assumption)) (by omega)
          repeat' (first
            | refine T_sipush (v := (nI 156)) (pc1 := 3) (pc := 0) k_M_worked_0 rfl (by decide) ?_
            | refine T_bipush (v := (nI 100)) (pc1 := 5) (pc := 3) k_M_worked_3 rfl (by decide) ?_
            | refine T_iload_n (pc1 := 6) (pc := 5) k_M_worked_5 rfl rfl ?_
            | with_reducible refine T_imulN (pc1 := 7) (pc := 6) k_M_worked_6 (by decide) ?_
            | refine T_imul (pc1 := 7) (pc := 6) k_M_worked_6 rfl ?_
            | with_reducible refine T_iaddN (pc1 := 8) (pc := 7) k_M_worked_7 (by decide) ?_
            | refine T_iadd (pc1 := 8) (pc := 7) k_M_worked_7 rfl ?_
            | refine T_istore_n (pc1 := 9) (pc := 8) k_M_worked_8 rfl (Nat.le_of_ble_eq_true rfl) ?_
            | refine T_iconst (v := (nI 0)) (pc1 := 10) (pc := 9) k_M_worked_9 rfl (by decide) ?_
            | refine T_istore_n (pc1 := 11) (pc := 10) k_M_worked_10 rfl (Nat.le_of_ble_eq_true rfl) ?_
            | refine T_iconst (v := (nI 0)) (pc1 := 12) (pc := 11) k_M_worked_11 rfl (by decide) ?_
            | refine T_istore (pc1 := 14) (pc := 12) k_M_worked_12 rfl (Nat.le_of_ble_eq_true rfl) ?_
            | refine T_aload_n (pc1 := 17) (pc := 16) k_M_worked_16 rfl rfl ?_
            | refine T_aload_nN (pc1 := 17) (pc := 16) k_M_worked_16 rfl rfl ?_
            | refine T_getR (pc1 := 20) (pc := 17) k_M_worked_17 rfl f_M_9 rfl (by first | exact ga G (by decide) rfl | assumption) (by first | exact gr G (by decide) rfl | assumption) ?_
            | refine T_iload_n (pc1 := 21) (pc := 20) k_M_worked_20 rfl rfl ?_
            | refine T_iconst (v := (nI 2)) (pc1 := 22) (pc := 21) k_M_worked_21 rfl (by decide) ?_
            | with_reducible refine T_iaddN (pc1 := 23) (pc := 22) k_M_worked_22 (by decide) ?_
            | refine T_iadd (pc1 := 23) (pc := 22) k_M_worked_22 rfl ?_
            | refine T_ialdN (pc1 := 24) (pc := 23) k_M_worked_23 rfl (by first | exact ga G (by decide) rfl | assumption) (by omega) (by omega) (by first | assumption | (simp (disch := omega) only [pI_eq, pI_row, pI_col, va_up_self, va_up_ne, ne_eq, not_false_eq_true] <;> rfl) | rfl) ?_
            | refine T_iald (pc1 := 24) (pc := 23) k_M_worked_23 rfl (by first | exact ga G (by decide) rfl | assumption) (by assumption) ?_
            | (with_reducible refine T_icmp_geN (tgt := 158) (pc1 := 27) (pc := 24) k_M_worked_24 (by decide) (by decide) (by omega) (by omega) (fun hc => ?_) (fun hc => ?_) <;> first | (exfalso; omega) | skip)
            | refine T_icmp_ge_t (tgt := 158) (pc := 24) k_M_worked_24 rfl (by decide) ?_
            | refine T_icmp_ge_f (tgt := 158) (pc1 := 27) (pc := 24) k_M_worked_24 rfl rfl (by decide) ?_
            | refine T_icmp_ge (tgt := 158) (pc1 := 27) (pc := 24) k_M_worked_24 rfl rfl (fun hc => ?_) (fun hc => ?_)
            | refine T_aload_n (pc1 := 28) (pc := 27) k_M_worked_27 rfl rfl ?_
            | refine T_aload_nN (pc1 := 28) (pc := 27) k_M_worked_27 rfl rfl ?_
            | refine T_getR (pc1 := 31) (pc := 28) k_M_worked_28 rfl f_M_9 rfl (by first | exact ga G (by decide) rfl | assumption) (by first | exact gr G (by decide) rfl | assumption) ?_
            | refine T_iload_n (pc1 := 32) (pc := 31) k_M_worked_31 rfl rfl ?_
            | refine T_iconst (v := (nI 3)) (pc1 := 33) (pc := 32) k_M_worked_32 rfl (by decide) ?_
            | with_reducible refine T_iaddN (pc1 := 34) (pc := 33) k_M_worked_33 (by decide) ?_
            | refine T_iadd (pc1 := 34) (pc := 33) k_M_worked_33 rfl ?_
            | refine T_iload (pc1 := 36) (pc := 34) k_M_worked_34 rfl rfl ?_
            | with_reducible refine T_iaddN (pc1 := 37) (pc := 36) k_M_worked_36 (by decide) ?_
            | refine T_iadd (pc1 := 37) (pc := 36) k_M_worked_36 rfl ?_
            | refine T_ialdN (pc1 := 38) (pc := 37) k_M_worked_37 rfl (by first | exact ga G (by decide) rfl | assumption) (by omega) (by omega) (by first | assumption | (simp (disch := omega) only [pI_eq, pI_row, pI_col, va_up_self, va_up_ne, ne_eq, not_false_eq_true] <;> rfl) | rfl) ?_
            | refine T_iald (pc1 := 38) (pc := 37) k_M_worked_37 rfl (by first | exact ga G (by decide) rfl | assumption) (by assumption) ?_
            | refine T_istore (pc1 := 40) (pc := 38) k_M_worked_38 rfl (Nat.le_of_ble_eq_true rfl) ?_
            | refine T_iload (pc1 := 42) (pc := 40) k_M_worked_40 rfl rfl ?_
            | (with_reducible refine T_if_ltN (tgt := 59) (pc1 := 45) (pc := 42) k_M_worked_42 (by decide) (by decide) (by omega) ?_ <;> first | (exfalso; omega) | skip)
            | refine T_if_lt_t (tgt := 59) (pc := 42) k_M_worked_42 rfl (by decide) ?_
            | refine T_if_lt_f (tgt := 59) (pc1 := 45) (pc := 42) k_M_worked_42 rfl rfl (by decide) ?_
            | refine T_if_lt (tgt := 59) (pc1 := 45) (pc := 42) k_M_worked_42 rfl rfl (fun hc => ?_) (fun hc => ?_)
            | refine T_aload_n (pc1 := 46) (pc := 45) k_M_worked_45 rfl rfl ?_
            | refine T_aload_nN (pc1 := 46) (pc := 45) k_M_worked_45 rfl rfl ?_
            | refine T_getR (pc1 := 49) (pc := 46) k_M_worked_46 rfl f_M_58 rfl (by first | exact ga G (by decide) rfl | assumption) (by first | exact gr G (by decide) rfl | assumption) ?_
            | refine T_iload_n (pc1 := 50) (pc := 49) k_M_worked_49 rfl rfl ?_
            | refine T_iload (pc1 := 52) (pc := 50) k_M_worked_50 rfl rfl ?_
            | refine T_iastN (pc1 := 53) (pc := 52) k_M_worked_52 rfl (by first | exact ga G (by decide) rfl | assumption) (by omega) (by omega) ?_
            | refine T_iincN (b := 1) (pc1 := 56) (pc := 53) k_M_worked_53 rfl rfl (by decide) ?_
            | refine T_iinc (v := (nI 1)) (pc1 := 56) (pc := 53) k_M_worked_53 rfl rfl (by decide) ?_
            | refine T_goto (tgt := 152) (pc := 56) k_M_worked_56 rfl ?_
            | refine T_iload (pc1 := 61) (pc := 59) k_M_worked_59 rfl rfl ?_
            | refine T_bipush (v := (-10)) (pc1 := 63) (pc := 61) k_M_worked_61 rfl (by decide) ?_
            | (with_reducible refine T_icmp_ltN (tgt := 88) (pc1 := 66) (pc := 63) k_M_worked_63 (by decide) (by decide) (by omega) (by omega) (fun hc => ?_) (fun hc => ?_) <;> first | (exfalso; omega) | skip)
            | refine T_icmp_lt_t (tgt := 88) (pc := 63) k_M_worked_63 rfl (by decide) ?_
            | refine T_icmp_lt_f (tgt := 88) (pc1 := 66) (pc := 63) k_M_worked_63 rfl rfl (by decide) ?_
            | refine T_icmp_lt (tgt := 88) (pc1 := 66) (pc := 63) k_M_worked_63 rfl rfl (fun hc => ?_) (fun hc => ?_)
            | refine T_aload_n (pc1 := 67) (pc := 66) k_M_worked_66 rfl rfl ?_
            | refine T_aload_nN (pc1 := 67) (pc := 66) k_M_worked_66 rfl rfl ?_
            | refine T_getR (pc1 := 70) (pc := 67) k_M_worked_67 rfl f_M_58 rfl (by first | exact ga G (by decide) rfl | assumption) (by first | exact gr G (by decide) rfl | assumption) ?_
            | refine T_iload_n (pc1 := 71) (pc := 70) k_M_worked_70 rfl rfl ?_
            | refine T_aload_n (pc1 := 72) (pc := 71) k_M_worked_71 rfl rfl ?_
            | refine T_aload_nN (pc1 := 72) (pc := 71) k_M_worked_71 rfl rfl ?_
            | refine T_getR (pc1 := 75) (pc := 72) k_M_worked_72 rfl f_M_55 rfl (by first | exact ga G (by decide) rfl | assumption) (by first | exact gr G (by decide) rfl | assumption) ?_
            | refine T_iload (pc1 := 77) (pc := 75) k_M_worked_75 rfl rfl ?_
            | refine T_bipush (v := (-10)) (pc1 := 79) (pc := 77) k_M_worked_77 rfl (by decide) ?_
            | with_reducible refine T_isubN (pc1 := 80) (pc := 79) k_M_worked_79 (by decide) (by omega) ?_
            | refine T_isub (pc1 := 80) (pc := 79) k_M_worked_79 rfl ?_
            | refine T_iastN (pc1 := 82) (pc := 81) k_M_worked_81 rfl (by first | exact ga G (by decide) rfl | assumption) (by omega) (by omega) ?_
            | refine T_iincN (b := 1) (pc1 := 85) (pc := 82) k_M_worked_82 rfl rfl (by decide) ?_
            | refine T_iinc (v := (nI 1)) (pc1 := 85) (pc := 82) k_M_worked_82 rfl rfl (by decide) ?_
            | refine T_goto (tgt := 152) (pc := 85) k_M_worked_85 rfl ?_
            | refine T_iload (pc1 := 90) (pc := 88) k_M_worked_88 rfl rfl ?_
            | refine T_bipush (v := (-29)) (pc1 := 92) (pc := 90) k_M_worked_90 rfl (by decide) ?_
            | (with_reducible refine T_icmp_neN (tgt := 122) (pc1 := 95) (pc := 92) k_M_worked_92 (by decide) (by decide) (by omega) (by omega) (fun hc => ?_) (fun hc => ?_) <;> first | (exfalso; omega) | skip)
            | refine T_icmp_ne_t (tgt := 122) (pc := 92) k_M_worked_92 rfl (by decide) ?_
            | refine T_icmp_ne_f (tgt := 122) (pc1 := 95) (pc := 92) k_M_worked_92 rfl rfl (by decide) ?_
            | refine T_icmp_ne (tgt := 122) (pc1 := 95) (pc := 92) k_M_worked_92 rfl rfl (fun hc => ?_) (fun hc => ?_)
            | refine T_aload_n (pc1 := 96) (pc := 95) k_M_worked_95 rfl rfl ?_
            | refine T_aload_nN (pc1 := 96) (pc := 95) k_M_worked_95 rfl rfl ?_
            | refine T_getR (pc1 := 99) (pc := 96) k_M_worked_96 rfl f_M_58 rfl (by first | exact ga G (by decide) rfl | assumption) (by first | exact gr G (by decide) rfl | assumption) ?_
            | refine T_iload_n (pc1 := 100) (pc := 99) k_M_worked_99 rfl rfl ?_
            | refine T_iconst (v := (nI 1)) (pc1 := 101) (pc := 100) k_M_worked_100 rfl (by decide) ?_
            | with_reducible refine T_isubN (pc1 := 102) (pc := 101) k_M_worked_101 (by decide) (by omega) ?_
            | refine T_isub (pc1 := 102) (pc := 101) k_M_worked_101 rfl ?_
            | refine T_aload_n (pc1 := 103) (pc := 102) k_M_worked_102 rfl rfl ?_
            | refine T_aload_nN (pc1 := 103) (pc := 102) k_M_worked_102 rfl rfl ?_
            | refine T_getR (pc1 := 106) (pc := 103) k_M_worked_103 rfl f_M_58 rfl (by first | exact ga G (by decide) rfl | assumption) (by first | exact gr G (by decide) rfl | assumption) ?_
            | refine T_iload_n (pc1 := 107) (pc := 106) k_M_worked_106 rfl rfl ?_
            | refine T_iconst (v := (nI 1)) (pc1 := 108) (pc := 107) k_M_worked_107 rfl (by decide) ?_
            | with_reducible refine T_isubN (pc1 := 109) (pc := 108) k_M_worked_108 (by decide) (by omega) ?_
            | refine T_isub (pc1 := 109) (pc := 108) k_M_worked_108 rfl ?_
            | refine T_ialdN (pc1 := 110) (pc := 109) k_M_worked_109 rfl (by first | exact ga G (by decide) rfl | assumption) (by omega) (by omega) (by first | assumption | (simp (disch := omega) only [pI_eq, pI_row, pI_col, va_up_self, va_up_ne, ne_eq, not_false_eq_true] <;> rfl) | rfl) ?_
            | refine T_iald (pc1 := 110) (pc := 109) k_M_worked_109 rfl (by first | exact ga G (by decide) rfl | assumption) (by assumption) ?_
            | (with_reducible refine T_if_neN (tgt := 117) (pc1 := 113) (pc := 110) k_M_worked_110 (by decide) (by decide) (by omega) (fun hc => ?_) (fun hc => ?_) <;> first | (exfalso; omega) | skip)
            | refine T_if_ne_t (tgt := 117) (pc := 110) k_M_worked_110 rfl (by decide) ?_
            | refine T_if_ne_f (tgt := 117) (pc1 := 113) (pc := 110) k_M_worked_110 rfl rfl (by decide) ?_
            | refine T_if_ne (tgt := 117) (pc1 := 113) (pc := 110) k_M_worked_110 rfl rfl (fun hc => ?_) (fun hc => ?_)
            | refine T_iconst (v := (nI 1)) (pc1 := 114) (pc := 113) k_M_worked_113 rfl (by decide) ?_
            | refine T_goto (tgt := 118) (pc := 114) k_M_worked_114 rfl ?_
            | refine T_iconst (v := (nI 0)) (pc1 := 118) (pc := 117) k_M_worked_117 rfl (by decide) ?_
            | refine T_iastN (pc1 := 119) (pc := 118) k_M_worked_118 rfl (by first | exact ga G (by decide) rfl | assumption) (by omega) (by omega) ?_
            | refine T_goto (tgt := 152) (pc := 119) k_M_worked_119 rfl ?_
            | refine T_iinc (v := (-1)) (pc1 := 125) (pc := 122) k_M_worked_122 rfl rfl (by decide) ?_
            | refine T_aload_n (pc1 := 126) (pc := 125) k_M_worked_125 rfl rfl ?_
            | refine T_aload_nN (pc1 := 126) (pc := 125) k_M_worked_125 rfl rfl ?_
            | refine T_getR (pc1 := 129) (pc := 126) k_M_worked_126 rfl f_M_58 rfl (by first | exact ga G (by decide) rfl | assumption) (by first | exact gr G (by decide) rfl | assumption) ?_
            | refine T_iload_n (pc1 := 130) (pc := 129) k_M_worked_129 rfl rfl ?_
            | refine T_iconst (v := (nI 1)) (pc1 := 131) (pc := 130) k_M_worked_130 rfl (by decide) ?_
            | with_reducible refine T_isubN (pc1 := 132) (pc := 131) k_M_worked_131 (by decide) (by omega) ?_
            | refine T_isub (pc1 := 132) (pc := 131) k_M_worked_131 rfl ?_
            | refine T_iload (pc1 := 134) (pc := 132) k_M_worked_132 rfl rfl ?_
            | refine T_aload_n (pc1 := 135) (pc := 134) k_M_worked_134 rfl rfl ?_
            | refine T_aload_nN (pc1 := 135) (pc := 134) k_M_worked_134 rfl rfl ?_
            | refine T_getR (pc1 := 138) (pc := 135) k_M_worked_135 rfl f_M_58 rfl (by first | exact ga G (by decide) rfl | assumption) (by first | exact gr G (by decide) rfl | assumption) ?_
            | refine T_iload_n (pc1 := 139) (pc := 138) k_M_worked_138 rfl rfl ?_
            | refine T_iconst (v := (nI 1)) (pc1 := 140) (pc := 139) k_M_worked_139 rfl (by decide) ?_
            | with_reducible refine T_isubN (pc1 := 141) (pc := 140) k_M_worked_140 (by decide) (by omega) ?_
            | refine T_isub (pc1 := 141) (pc := 140) k_M_worked_140 rfl ?_
            | refine T_ialdN (pc1 := 142) (pc := 141) k_M_worked_141 rfl (by first | exact ga G (by decide) rfl | assumption) (by omega) (by omega) (by first | assumption | (simp (disch := omega) only [pI_eq, pI_row, pI_col, va_up_self, va_up_ne, ne_eq, not_false_eq_true] <;> rfl) | rfl) ?_
            | refine T_iald (pc1 := 142) (pc := 141) k_M_worked_141 rfl (by first | exact ga G (by decide) rfl | assumption) (by assumption) ?_
            | refine T_aload_n (pc1 := 143) (pc := 142) k_M_worked_142 rfl rfl ?_
            | refine T_aload_nN (pc1 := 143) (pc := 142) k_M_worked_142 rfl rfl ?_
            | refine T_getR (pc1 := 146) (pc := 143) k_M_worked_143 rfl f_M_58 rfl (by first | exact ga G (by decide) rfl | assumption) (by first | exact gr G (by decide) rfl | assumption) ?_
            | refine T_iload_n (pc1 := 147) (pc := 146) k_M_worked_146 rfl rfl ?_
            | refine T_ialdN (pc1 := 148) (pc := 147) k_M_worked_147 rfl (by first | exact ga G (by decide) rfl | assumption) (by omega) (by omega) (by first | assumption | (simp (disch := omega) only [pI_eq, pI_row, pI_col, va_up_self, va_up_ne, ne_eq, not_false_eq_true] <;> rfl) | rfl) ?_
            | refine T_iald (pc1 := 148) (pc := 147) k_M_worked_147 rfl (by first | exact ga G (by decide) rfl | assumption) (by assumption) ?_
            | (refine T_cS (As := [_, _, _]) (d1 := 1) (pc1 := 151) (pc := 148) k_M_worked_148 rfl (by decide) (Nat.le_of_ble_eq_true rfl) rfl o_M_done l_M_293 rfl (c_M_done (fun r hr => ?_)) <;> try dsimp only [psh])
            | refine T_iastN (pc1 := 152) (pc := 151) k_M_worked_151 rfl (by first | exact ga G (by decide) rfl | assumption) (by omega) (by omega) ?_
            | refine T_iincN (b := 1) (pc1 := 155) (pc := 152) k_M_worked_152 rfl rfl (by decide) ?_
            | refine T_iinc (v := (nI 1)) (pc1 := 155) (pc := 152) k_M_worked_152 rfl rfl (by decide) ?_
            | refine T_goto (tgt := 14) (pc := 155) k_M_worked_155 rfl ?_
            | refine T_aload_n (pc1 := 159) (pc := 158) k_M_worked_158 rfl rfl ?_
            | refine T_aload_nN (pc1 := 159) (pc := 158) k_M_worked_158 rfl rfl ?_
            | refine T_getR (pc1 := 162) (pc := 159) k_M_worked_159 rfl f_M_58 rfl (by first | exact ga G (by decide) rfl | assumption) (by first | exact gr G (by decide) rfl | assumption) ?_
            | refine T_iconst (v := (nI 0)) (pc1 := 163) (pc := 162) k_M_worked_162 rfl (by decide) ?_
            | refine T_ialdN (pc1 := 164) (pc := 163) k_M_worked_163 rfl (by first | exact ga G (by decide) rfl | assumption) (by omega) (by omega) (by first | assumption | (simp (disch := omega) only [pI_eq, pI_row, pI_col, va_up_self, va_up_ne, ne_eq, not_false_eq_true] <;> rfl) | rfl) ?_
            | refine T_iald (pc1 := 164) (pc := 163) k_M_worked_163 rfl (by first | exact ga G (by decide) rfl | assumption) (by assumption) ?_
            | refine T_retI (pc := 164) k_M_worked_164 rfl (by first | rfl | decide | assumption) ?_)
          rw [hq2]
          repeat' (first
            | refine T_sipush (v := (nI 156)) (pc1 := 3) (pc := 0) k_M_worked_0 rfl (by decide) ?_
            | refine T_bipush (v := (nI 100)) (pc1 := 5) (pc := 3) k_M_worked_3 rfl (by decide) ?_
            | refine T_iload_n (pc1 := 6) (pc := 5) k_M_worked_5 rfl rfl ?_
            | with_reducible refine T_imulN (pc1 := 7) (pc := 6) k_M_worked_6 (by decide) ?_
            | refine T_imul (pc1 := 7) (pc := 6) k_M_worked_6 rfl ?_
            | with_reducible refine T_iaddN (pc1 := 8) (pc := 7) k_M_worked_7 (by decide) ?_
            | refine T_iadd (pc1 := 8) (pc := 7) k_M_worked_7 rfl ?_
            | refine T_istore_n (pc1 := 9) (pc := 8) k_M_worked_8 rfl (Nat.le_of_ble_eq_true rfl) ?_
            | refine T_iconst (v := (nI 0)) (pc1 := 10) (pc := 9) k_M_worked_9 rfl (by decide) ?_
            | refine T_istore_n (pc1 := 11) (pc := 10) k_M_worked_10 rfl (Nat.le_of_ble_eq_true rfl) ?_
            | refine T_iconst (v := (nI 0)) (pc1 := 12) (pc := 11) k_M_worked_11 rfl (by decide) ?_
            | refine T_istore (pc1 := 14) (pc := 12) k_M_worked_12 rfl (Nat.le_of_ble_eq_true rfl) ?_
            | refine T_aload_n (pc1 := 17) (pc := 16) k_M_worked_16 rfl rfl ?_
            | refine T_aload_nN (pc1 := 17) (pc := 16) k_M_worked_16 rfl rfl ?_
            | refine T_getR (pc1 := 20) (pc := 17) k_M_worked_17 rfl f_M_9 rfl (by first | exact ga G (by decide) rfl | assumption) (by first | exact gr G (by decide) rfl | assumption) ?_
            | refine T_iload_n (pc1 := 21) (pc := 20) k_M_worked_20 rfl rfl ?_
            | refine T_iconst (v := (nI 2)) (pc1 := 22) (pc := 21) k_M_worked_21 rfl (by decide) ?_
            | with_reducible refine T_iaddN (pc1 := 23) (pc := 22) k_M_worked_22 (by decide) ?_
            | refine T_iadd (pc1 := 23) (pc := 22) k_M_worked_22 rfl ?_
            | refine T_ialdN (pc1 := 24) (pc := 23) k_M_worked_23 rfl (by first | exact ga G (by decide) rfl | assumption) (by omega) (by omega) (by first | assumption | (simp (disch := omega) only [pI_eq, pI_row, pI_col, va_up_self, va_up_ne, ne_eq, not_false_eq_true] <;> rfl) | rfl) ?_
            | refine T_iald (pc1 := 24) (pc := 23) k_M_worked_23 rfl (by first | exact ga G (by decide) rfl | assumption) (by assumption) ?_
            | (with_reducible refine T_icmp_geN (tgt := 158) (pc1 := 27) (pc := 24) k_M_worked_24 (by decide) (by decide) (by omega) (by omega) (fun hc => ?_) (fun hc => ?_) <;> first | (exfalso; omega) | skip)
            | refine T_icmp_ge_t (tgt := 158) (pc := 24) k_M_worked_24 rfl (by decide) ?_
            | refine T_icmp_ge_f (tgt := 158) (pc1 := 27) (pc := 24) k_M_worked_24 rfl rfl (by decide) ?_
            | refine T_icmp_ge (tgt := 158) (pc1 := 27) (pc := 24) k_M_worked_24 rfl rfl (fun hc => ?_) (fun hc => ?_)
            | refine T_aload_n (pc1 := 28) (pc := 27) k_M_worked_27 rfl rfl ?_
            | refine T_aload_nN (pc1 := 28) (pc := 27) k_M_worked_27 rfl rfl ?_
            | refine T_getR (pc1 := 31) (pc := 28) k_M_worked_28 rfl f_M_9 rfl (by first | exact ga G (by decide) rfl | assumption) (by first | exact gr G (by decide) rfl | assumption) ?_
            | refine T_iload_n (pc1 := 32) (pc := 31) k_M_worked_31 rfl rfl ?_
            | refine T_iconst (v := (nI 3)) (pc1 := 33) (pc := 32) k_M_worked_32 rfl (by decide) ?_
            | with_reducible refine T_iaddN (pc1 := 34) (pc := 33) k_M_worked_33 (by decide) ?_
            | refine T_iadd (pc1 := 34) (pc := 33) k_M_worked_33 rfl ?_
            | refine T_iload (pc1 := 36) (pc := 34) k_M_worked_34 rfl rfl ?_
            | with_reducible refine T_iaddN (pc1 := 37) (pc := 36) k_M_worked_36 (by decide) ?_
            | refine T_iadd (pc1 := 37) (pc := 36) k_M_worked_36 rfl ?_
            | refine T_ialdN (pc1 := 38) (pc := 37) k_M_worked_37 rfl (by first | exact ga G (by decide) rfl | assumption) (by omega) (by omega) (by first | assumption | (simp (disch := omega) only [pI_eq, pI_row, pI_col, va_up_self, va_up_ne, ne_eq, not_false_eq_true] <;> rfl) | rfl) ?_
            | refine T_iald (pc1 := 38) (pc := 37) k_M_worked_37 rfl (by first | exact ga G (by decide) rfl | assumption) (by assumption) ?_
            | refine T_istore (pc1 := 40) (pc := 38) k_M_worked_38 rfl (Nat.le_of_ble_eq_true rfl) ?_
            | refine T_iload (pc1 := 42) (pc := 40) k_M_worked_40 rfl rfl ?_
            | (with_reducible refine T_if_ltN (tgt := 59) (pc1 := 45) (pc := 42) k_M_worked_42 (by decide) (by decide) (by omega) ?_ <;> first | (exfalso; omega) | skip)
            | refine T_if_lt_t (tgt := 59) (pc := 42) k_M_worked_42 rfl (by decide) ?_
            | refine T_if_lt_f (tgt := 59) (pc1 := 45) (pc := 42) k_M_worked_42 rfl rfl (by decide) ?_
            | refine T_if_lt (tgt := 59) (pc1 := 45) (pc := 42) k_M_worked_42 rfl rfl (fun hc => ?_) (fun hc => ?_)
            | refine T_aload_n (pc1 := 46) (pc := 45) k_M_worked_45 rfl rfl ?_
            | refine T_aload_nN (pc1 := 46) (pc := 45) k_M_worked_45 rfl rfl ?_
            | refine T_getR (pc1 := 49) (pc := 46) k_M_worked_46 rfl f_M_58 rfl (by first | exact ga G (by decide) rfl | assumption) (by first | exact gr G (by decide) rfl | assumption) ?_
            | refine T_iload_n (pc1 := 50) (pc := 49) k_M_worked_49 rfl rfl ?_
            | refine T_iload (pc1 := 52) (pc := 50) k_M_worked_50 rfl rfl ?_
            | refine T_iastN (pc1 := 53) (pc := 52) k_M_worked_52 rfl (by first | exact ga G (by decide) rfl | assumption) (by omega) (by omega) ?_
            | refine T_iincN (b := 1) (pc1 := 56) (pc := 53) k_M_worked_53 rfl rfl (by decide) ?_
            | refine T_iinc (v := (nI 1)) (pc1 := 56) (pc := 53) k_M_worked_53 rfl rfl (by decide) ?_
            | refine T_goto (tgt := 152) (pc := 56) k_M_worked_56 rfl ?_
            | refine T_iload (pc1 := 61) (pc := 59) k_M_worked_59 rfl rfl ?_
            | refine T_bipush (v := (-10)) (pc1 := 63) (pc := 61) k_M_worked_61 rfl (by decide) ?_
            | (with_reducible refine T_icmp_ltN (tgt := 88) (pc1 := 66) (pc := 63) k_M_worked_63 (by decide) (by decide) (by omega) (by omega) (fun hc => ?_) (fun hc => ?_) <;> first | (exfalso; omega) | skip)
            | refine T_icmp_lt_t (tgt := 88) (pc := 63) k_M_worked_63 rfl (by decide) ?_
            | refine T_icmp_lt_f (tgt := 88) (pc1 := 66) (pc := 63) k_M_worked_63 rfl rfl (by decide) ?_
            | refine T_icmp_lt (tgt := 88) (pc1 := 66) (pc := 63) k_M_worked_63 rfl rfl (fun hc => ?_) (fun hc => ?_)
            | refine T_aload_n (pc1 := 67) (pc := 66) k_M_worked_66 rfl rfl ?_
            | refine T_aload_nN (pc1 := 67) (pc := 66) k_M_worked_66 rfl rfl ?_
            | refine T_getR (pc1 := 70) (pc := 67) k_M_worked_67 rfl f_M_58 rfl (by first | exact ga G (by decide) rfl | assumption) (by first | exact gr G (by decide) rfl | assumption) ?_
            | refine T_iload_n (pc1 := 71) (pc := 70) k_M_worked_70 rfl rfl ?_
            | refine T_aload_n (pc1 := 72) (pc := 71) k_M_worked_71 rfl rfl ?_
            | refine T_aload_nN (pc1 := 72) (pc := 71) k_M_worked_71 rfl rfl ?_
            | refine T_getR (pc1 := 75) (pc := 72) k_M_worked_72 rfl f_M_55 rfl (by first | exact ga G (by decide) rfl | assumption) (by first | exact gr G (by decide) rfl | assumption) ?_
            | refine T_iload (pc1 := 77) (pc := 75) k_M_worked_75 rfl rfl ?_
            | refine T_bipush (v := (-10)) (pc1 := 79) (pc := 77) k_M_worked_77 rfl (by decide) ?_
            | with_reducible refine T_isubN (pc1 := 80) (pc := 79) k_M_worked_79 (by decide) (by omega) ?_
            | refine T_isub (pc1 := 80) (pc := 79) k_M_worked_79 rfl ?_
            | refine T_ialdN (pc1 := 81) (pc := 80) k_M_worked_80 rfl (by first | exact ga G (by decide) rfl | assumption) (by omega) (by omega) (by first | assumption | (simp (disch := omega) only [pI_eq, pI_row, pI_col, va_up_self, va_up_ne, ne_eq, not_false_eq_true] <;> rfl) | rfl) ?_
            | refine T_iald (pc1 := 81) (pc := 80) k_M_worked_80 rfl (by first | exact ga G (by decide) rfl | assumption) (by assumption) ?_
            | refine T_iastN (pc1 := 82) (pc := 81) k_M_worked_81 rfl (by first | exact ga G (by decide) rfl | assumption) (by omega) (by omega) ?_
            | refine T_iincN (b := 1) (pc1 := 85) (pc := 82) k_M_worked_82 rfl rfl (by decide) ?_
            | refine T_iinc (v := (nI 1)) (pc1 := 85) (pc := 82) k_M_worked_82 rfl rfl (by decide) ?_
            | refine T_goto (tgt := 152) (pc := 85) k_M_worked_85 rfl ?_
            | refine T_iload (pc1 := 90) (pc := 88) k_M_worked_88 rfl rfl ?_
            | refine T_bipush (v := (-29)) (pc1 := 92) (pc := 90) k_M_worked_90 rfl (by decide) ?_
            | (with_reducible refine T_icmp_neN (tgt := 122) (pc1 := 95) (pc := 92) k_M_worked_92 (by decide) (by decide) (by omega) (by omega) (fun hc => ?_) (fun hc => ?_) <;> first | (exfalso; omega) | skip)
            | refine T_icmp_ne_t (tgt := 122) (pc := 92) k_M_worked_92 rfl (by decide) ?_
            | refine T_icmp_ne_f (tgt := 122) (pc1 := 95) (pc := 92) k_M_worked_92 rfl rfl (by decide) ?_
            | refine T_icmp_ne (tgt := 122) (pc1 := 95) (pc := 92) k_M_worked_92 rfl rfl (fun hc => ?_) (fun hc => ?_)
            | refine T_aload_n (pc1 := 96) (pc := 95) k_M_worked_95 rfl rfl ?_
            | refine T_aload_nN (pc1 := 96) (pc := 95) k_M_worked_95 rfl rfl ?_
            | refine T_getR (pc1 := 99) (pc := 96) k_M_worked_96 rfl f_M_58 rfl (by first | exact ga G (by decide) rfl | assumption) (by first | exact gr G (by decide) rfl | assumption) ?_
            | refine T_iload_n (pc1 := 100) (pc := 99) k_M_worked_99 rfl rfl ?_
            | refine T_iconst (v := (nI 1)) (pc1 := 101) (pc := 100) k_M_worked_100 rfl (by decide) ?_
            | with_reducible refine T_isubN (pc1 := 102) (pc := 101) k_M_worked_101 (by decide) (by omega) ?_
            | refine T_isub (pc1 := 102) (pc := 101) k_M_worked_101 rfl ?_
            | refine T_aload_n (pc1 := 103) (pc := 102) k_M_worked_102 rfl rfl ?_
            | refine T_aload_nN (pc1 := 103) (pc := 102) k_M_worked_102 rfl rfl ?_
            | refine T_getR (pc1 := 106) (pc := 103) k_M_worked_103 rfl f_M_58 rfl (by first | exact ga G (by decide) rfl | assumption) (by first | exact gr G (by decide) rfl | assumption) ?_
            | refine T_iload_n (pc1 := 107) (pc := 106) k_M_worked_106 rfl rfl ?_
            | refine T_iconst (v := (nI 1)) (pc1 := 108) (pc := 107) k_M_worked_107 rfl (by decide) ?_
            | with_reducible refine T_isubN (pc1 := 109) (pc := 108) k_M_worked_108 (by decide) (by omega) ?_
            | refine T_isub (pc1 := 109) (pc := 108) k_M_worked_108 rfl ?_
            | refine T_ialdN (pc1 := 110) (pc := 109) k_M_worked_109 rfl (by first | exact ga G (by decide) rfl | assumption) (by omega) (by omega) (by first | assumption | (simp (disch := omega) only [pI_eq, pI_row, pI_col, va_up_self, va_up_ne, ne_eq, not_false_eq_true] <;> rfl) | rfl) ?_
            | refine T_iald (pc1 := 110) (pc := 109) k_M_worked_109 rfl (by first | exact ga G (by decide) rfl | assumption) (by assumption) ?_
            | (with_reducible refine T_if_neN (tgt := 117) (pc1 := 113) (pc := 110) k_M_worked_110 (by decide) (by decide) (by omega) (fun hc => ?_) (fun hc => ?_) <;> first | (exfalso; omega) | skip)
            | refine T_if_ne_t (tgt := 117) (pc := 110) k_M_worked_110 rfl (by decide) ?_
            | refine T_if_ne_f (tgt := 117) (pc1 := 113) (pc := 110) k_M_worked_110 rfl rfl (by decide) ?_
            | refine T_if_ne (tgt := 117) (pc1 := 113) (pc := 110) k_M_worked_110 rfl rfl (fun hc => ?_) (fun hc => ?_)
            | refine T_iconst (v := (nI 1)) (pc1 := 114) (pc := 113) k_M_worked_113 rfl (by decide) ?_
            | refine T_goto (tgt := 118) (pc := 114) k_M_worked_114 rfl ?_
            | refine T_iconst (v := (nI 0)) (pc1 := 118) (pc := 117) k_M_worked_117 rfl (by decide) ?_
            | refine T_iastN (pc1 := 119) (pc := 118) k_M_worked_118 rfl (by first | exact ga G (by decide) rfl | assumption) (by omega) (by omega) ?_
            | refine T_goto (tgt := 152) (pc := 119) k_M_worked_119 rfl ?_
            | refine T_iinc (v := (-1)) (pc1 := 125) (pc := 122) k_M_worked_122 rfl rfl (by decide) ?_
            | refine T_aload_n (pc1 := 126) (pc := 125) k_M_worked_125 rfl rfl ?_
            | refine T_aload_nN (pc1 := 126) (pc := 125) k_M_worked_125 rfl rfl ?_
            | refine T_getR (pc1 := 129) (pc := 126) k_M_worked_126 rfl f_M_58 rfl (by first | exact ga G (by decide) rfl | assumption) (by first | exact gr G (by decide) rfl | assumption) ?_
            | refine T_iload_n (pc1 := 130) (pc := 129) k_M_worked_129 rfl rfl ?_
            | refine T_iconst (v := (nI 1)) (pc1 := 131) (pc := 130) k_M_worked_130 rfl (by decide) ?_
            | with_reducible refine T_isubN (pc1 := 132) (pc := 131) k_M_worked_131 (by decide) (by omega) ?_
            | refine T_isub (pc1 := 132) (pc := 131) k_M_worked_131 rfl ?_
            | refine T_iload (pc1 := 134) (pc := 132) k_M_worked_132 rfl rfl ?_
            | refine T_aload_n (pc1 := 135) (pc := 134) k_M_worked_134 rfl rfl ?_
            | refine T_aload_nN (pc1 := 135) (pc := 134) k_M_worked_134 rfl rfl ?_
            | refine T_getR (pc1 := 138) (pc := 135) k_M_worked_135 rfl f_M_58 rfl (by first | exact ga G (by decide) rfl | assumption) (by first | exact gr G (by decide) rfl | assumption) ?_
            | refine T_iload_n (pc1 := 139) (pc := 138) k_M_worked_138 rfl rfl ?_
            | refine T_iconst (v := (nI 1)) (pc1 := 140) (pc := 139) k_M_worked_139 rfl (by decide) ?_
            | with_reducible refine T_isubN (pc1 := 141) (pc := 140) k_M_worked_140 (by decide) (by omega) ?_
            | refine T_isub (pc1 := 141) (pc := 140) k_M_worked_140 rfl ?_
            | refine T_ialdN (pc1 := 142) (pc := 141) k_M_worked_141 rfl (by first | exact ga G (by decide) rfl | assumption) (by omega) (by omega) (by first | assumption | (simp (disch := omega) only [pI_eq, pI_row, pI_col, va_up_self, va_up_ne, ne_eq, not_false_eq_true] <;> rfl) | rfl) ?_
            | refine T_iald (pc1 := 142) (pc := 141) k_M_worked_141 rfl (by first | exact ga G (by decide) rfl | assumption) (by assumption) ?_
            | refine T_aload_n (pc1 := 143) (pc := 142) k_M_worked_142 rfl rfl ?_
            | refine T_aload_nN (pc1 := 143) (pc := 142) k_M_worked_142 rfl rfl ?_
            | refine T_getR (pc1 := 146) (pc := 143) k_M_worked_143 rfl f_M_58 rfl (by first | exact ga G (by decide) rfl | assumption) (by first | exact gr G (by decide) rfl | assumption) ?_
            | refine T_iload_n (pc1 := 147) (pc := 146) k_M_worked_146 rfl rfl ?_
            | refine T_ialdN (pc1 := 148) (pc := 147) k_M_worked_147 rfl (by first | exact ga G (by decide) rfl | assumption) (by omega) (by omega) (by first | assumption | (simp (disch := omega) only [pI_eq, pI_row, pI_col, va_up_self, va_up_ne, ne_eq, not_false_eq_true] <;> rfl) | rfl) ?_
            | refine T_iald (pc1 := 148) (pc := 147) k_M_worked_147 rfl (by first | exact ga G (by decide) rfl | assumption) (by assumption) ?_
            | (refine T_cS (As := [_, _, _]) (d1 := 1) (pc1 := 151) (pc := 148) k_M_worked_148 rfl (by decide) (Nat.le_of_ble_eq_true rfl) rfl o_M_done l_M_293 rfl (c_M_done (fun r hr => ?_)) <;> try dsimp only [psh])
            | refine T_iastN (pc1 := 152) (pc := 151) k_M_worked_151 rfl (by first | exact ga G (by decide) rfl | assumption) (by omega) (by omega) ?_
            | refine T_iincN (b := 1) (pc1 := 155) (pc := 152) k_M_worked_152 rfl rfl (by decide) ?_
            | refine T_iinc (v := (nI 1)) (pc1 := 155) (pc := 152) k_M_worked_152 rfl rfl (by decide) ?_
            | refine T_goto (tgt := 14) (pc := 155) k_M_worked_155 rfl ?_
            | refine T_aload_n (pc1 := 159) (pc := 158) k_M_worked_158 rfl rfl ?_
            | refine T_aload_nN (pc1 := 159) (pc := 158) k_M_worked_158 rfl rfl ?_
            | refine T_getR (pc1 := 162) (pc := 159) k_M_worked_159 rfl f_M_58 rfl (by first | exact ga G (by decide) rfl | assumption) (by first | exact gr G (by decide) rfl | assumption) ?_
            | refine T_iconst (v := (nI 0)) (pc1 := 163) (pc := 162) k_M_worked_162 rfl (by decide) ?_
            | refine T_ialdN (pc1 := 164) (pc := 163) k_M_worked_163 rfl (by first | exact ga G (by decide) rfl | assumption) (by omega) (by omega) (by first | assumption | (simp (disch := omega) only [pI_eq, pI_row, pI_col, va_up_self, va_up_ne, ne_eq, not_false_eq_true] <;> rfl) | rfl) ?_
            | refine T_iald (pc1 := 164) (pc := 163) k_M_worked_163 rfl (by first | exact ga G (by decide) rfl | assumption) (by assumption) ?_
            | refine T_retI (pc := 164) k_M_worked_164 rfl (by first | rfl | decide | assumption) ?_)
          rw [if_pos h10] at ih
          refine ih _ _ (by omega) (eqx_pI hJ _ (by decide)) (fun j hj => ?_)
          rw [pl, hdd, hx, if_neg hn0, if_pos h10, pI_self]
          by_cases hjp : j = p
          · subst hjp
            rw [va_up_self, va_up_self, hq2, nI_clamp (by omega), hJM]
          · rw [va_up_ne _ _ hjp, va_up_ne _ _ hjp]
            exact hp j (by omega)
        · have h10 : ¬ (-10 : Int32) ≤ x := Int32.not_le.mpr (by assumption)
          rw [if_neg h10] at ih
          repeat' (first
            | refine T_sipush (v := (nI 156)) (pc1 := 3) (pc := 0) k_M_worked_0 rfl (by decide) ?_
            | refine T_bipush (v := (nI 100)) (pc1 := 5) (pc := 3) k_M_worked_3 rfl (by decide) ?_
            | refine T_iload_n (pc1 := 6) (pc := 5) k_M_worked_5 rfl rfl ?_
            | with_reducible refine T_imulN (pc1 := 7) (pc := 6) k_M_worked_6 (by decide) ?_
            | refine T_imul (pc1 := 7) (pc := 6) k_M_worked_6 rfl ?_
            | with_reducible refine T_iaddN (pc1 := 8) (pc := 7) k_M_worked_7 (by decide) ?_
            | refine T_iadd (pc1 := 8) (pc := 7) k_M_worked_7 rfl ?_
            | refine T_istore_n (pc1 := 9) (pc := 8) k_M_worked_8 rfl (Nat.le_of_ble_eq_true rfl) ?_
            | refine T_iconst (v := (nI 0)) (pc1 := 10) (pc := 9) k_M_worked_9 rfl (by decide) ?_
            | refine T_istore_n (pc1 := 11) (pc := 10) k_M_worked_10 rfl (Nat.le_of_ble_eq_true rfl) ?_
            | refine T_iconst (v := (nI 0)) (pc1 := 12) (pc := 11) k_M_worked_11 rfl (by decide) ?_
            | refine T_istore (pc1 := 14) (pc := 12) k_M_worked_12 rfl (Nat.le_of_ble_eq_true rfl) ?_
            | refine T_aload_n (pc1 := 17) (pc := 16) k_M_worked_16 rfl rfl ?_
            | refine T_aload_nN (pc1 := 17) (pc := 16) k_M_worked_16 rfl rfl ?_
            | refine T_getR (pc1 := 20) (pc := 17) k_M_worked_17 rfl f_M_9 rfl (by first | exact ga G (by decide) rfl | assumption) (by first | exact gr G (by decide) rfl | assumption) ?_
            | refine T_iload_n (pc1 := 21) (pc := 20) k_M_worked_20 rfl rfl ?_
            | refine T_iconst (v := (nI 2)) (pc1 := 22) (pc := 21) k_M_worked_21 rfl (by decide) ?_
            | with_reducible refine T_iaddN (pc1 := 23) (pc := 22) k_M_worked_22 (by decide) ?_
            | refine T_iadd (pc1 := 23) (pc := 22) k_M_worked_22 rfl ?_
            | refine T_ialdN (pc1 := 24) (pc := 23) k_M_worked_23 rfl (by first | exact ga G (by decide) rfl | assumption) (by omega) (by omega) (by first | assumption | (simp (disch := omega) only [pI_eq, pI_row, pI_col, va_up_self, va_up_ne, ne_eq, not_false_eq_true] <;> rfl) | rfl) ?_
            | refine T_iald (pc1 := 24) (pc := 23) k_M_worked_23 rfl (by first | exact ga G (by decide) rfl | assumption) (by assumption) ?_
            | (with_reducible refine T_icmp_geN (tgt := 158) (pc1 := 27) (pc := 24) k_M_worked_24 (by decide) (by decide) (by omega) (by omega) (fun hc => ?_) (fun hc => ?_) <;> first | (exfalso; omega) | skip)
            | refine T_icmp_ge_t (tgt := 158) (pc := 24) k_M_worked_24 rfl (by decide) ?_
            | refine T_icmp_ge_f (tgt := 158) (pc1 := 27) (pc := 24) k_M_worked_24 rfl rfl (by decide) ?_
            | refine T_icmp_ge (tgt := 158) (pc1 := 27) (pc := 24) k_M_worked_24 rfl rfl (fun hc => ?_) (fun hc => ?_)
            | refine T_aload_n (pc1 := 28) (pc := 27) k_M_worked_27 rfl rfl ?_
            | refine T_aload_nN (pc1 := 28) (pc := 27) k_M_worked_27 rfl rfl ?_
            | refine T_getR (pc1 := 31) (pc := 28) k_M_worked_28 rfl f_M_9 rfl (by first | exact ga G (by decide) rfl | assumption) (by first | exact gr G (by decide) rfl | assumption) ?_
            | refine T_iload_n (pc1 := 32) (pc := 31) k_M_worked_31 rfl rfl ?_
            | refine T_iconst (v := (nI 3)) (pc1 := 33) (pc := 32) k_M_worked_32 rfl (by decide) ?_
            | with_reducible refine T_iaddN (pc1 := 34) (pc := 33) k_M_worked_33 (by decide) ?_
            | refine T_iadd (pc1 := 34) (pc := 33) k_M_worked_33 rfl ?_
            | refine T_iload (pc1 := 36) (pc := 34) k_M_worked_34 rfl rfl ?_
            | with_reducible refine T_iaddN (pc1 := 37) (pc := 36) k_M_worked_36 (by decide) ?_
            | refine T_iadd (pc1 := 37) (pc := 36) k_M_worked_36 rfl ?_
            | refine T_ialdN (pc1 := 38) (pc := 37) k_M_worked_37 rfl (by first | exact ga G (by decide) rfl | assumption) (by omega) (by omega) (by first | assumption | (simp (disch := omega) only [pI_eq, pI_row, pI_col, va_up_self, va_up_ne, ne_eq, not_false_eq_true] <;> rfl) | rfl) ?_
            | refine T_iald (pc1 := 38) (pc := 37) k_M_worked_37 rfl (by first | exact ga G (by decide) rfl | assumption) (by assumption) ?_
            | refine T_istore (pc1 := 40) (pc := 38) k_M_worked_38 rfl (Nat.le_of_ble_eq_true rfl) ?_
            | refine T_iload (pc1 := 42) (pc := 40) k_M_worked_40 rfl rfl ?_
            | (with_reducible refine T_if_ltN (tgt := 59) (pc1 := 45) (pc := 42) k_M_worked_42 (by decide) (by decide) (by omega) ?_ <;> first | (exfalso; omega) | skip)
            | refine T_if_lt_t (tgt := 59) (pc := 42) k_M_worked_42 rfl (by decide) ?_
            | refine T_if_lt_f (tgt := 59) (pc1 := 45) (pc := 42) k_M_worked_42 rfl rfl (by decide) ?_
            | refine T_if_lt (tgt := 59) (pc1 := 45) (pc := 42) k_M_worked_42 rfl rfl (fun hc => ?_) (fun hc => ?_)
            | refine T_aload_n (pc1 := 46) (pc := 45) k_M_worked_45 rfl rfl ?_
            | refine T_aload_nN (pc1 := 46) (pc := 45) k_M_worked_45 rfl rfl ?_
            | refine T_getR (pc1 := 49) (pc := 46) k_M_worked_46 rfl f_M_58 rfl (by first | exact ga G (by decide) rfl | assumption) (by first | exact gr G (by decide) rfl | assumption) ?_
            | refine T_iload_n (pc1 := 50) (pc := 49) k_M_worked_49 rfl rfl ?_
            | refine T_iload (pc1 := 52) (pc := 50) k_M_worked_50 rfl rfl ?_
            | refine T_iastN (pc1 := 53) (pc := 52) k_M_worked_52 rfl (by first | exact ga G (by decide) rfl | assumption) (by omega) (by omega) ?_
            | refine T_iincN (b := 1) (pc1 := 56) (pc := 53) k_M_worked_53 rfl rfl (by decide) ?_
            | refine T_iinc (v := (nI 1)) (pc1 := 56) (pc := 53) k_M_worked_53 rfl rfl (by decide) ?_
            | refine T_goto (tgt := 152) (pc := 56) k_M_worked_56 rfl ?_
            | refine T_iload (pc1 := 61) (pc := 59) k_M_worked_59 rfl rfl ?_
            | refine T_bipush (v := (-10)) (pc1 := 63) (pc := 61) k_M_worked_61 rfl (by decide) ?_
            | (with_reducible refine T_icmp_ltN (tgt := 88) (pc1 := 66) (pc := 63) k_M_worked_63 (by decide) (by decide) (by omega) (by omega) (fun hc => ?_) (fun hc => ?_) <;> first | (exfalso; omega) | skip)
            | refine T_icmp_lt_t (tgt := 88) (pc := 63) k_M_worked_63 rfl (by decide) ?_
            | refine T_icmp_lt_f (tgt := 88) (pc1 := 66) (pc := 63) k_M_worked_63 rfl rfl (by decide) ?_
            | refine T_icmp_lt (tgt := 88) (pc1 := 66) (pc := 63) k_M_worked_63 rfl rfl (fun hc => ?_) (fun hc => ?_)
            | refine T_aload_n (pc1 := 67) (pc := 66) k_M_worked_66 rfl rfl ?_
            | refine T_aload_nN (pc1 := 67) (pc := 66) k_M_worked_66 rfl rfl ?_
            | refine T_getR (pc1 := 70) (pc := 67) k_M_worked_67 rfl f_M_58 rfl (by first | exact ga G (by decide) rfl | assumption) (by first | exact gr G (by decide) rfl | assumption) ?_
            | refine T_iload_n (pc1 := 71) (pc := 70) k_M_worked_70 rfl rfl ?_
            | refine T_aload_n (pc1 := 72) (pc := 71) k_M_worked_71 rfl rfl ?_
            | refine T_aload_nN (pc1 := 72) (pc := 71) k_M_worked_71 rfl rfl ?_
            | refine T_getR (pc1 := 75) (pc := 72) k_M_worked_72 rfl f_M_55 rfl (by first | exact ga G (by decide) rfl | assumption) (by first | exact gr G (by decide) rfl | assumption) ?_
            | refine T_iload (pc1 := 77) (pc := 75) k_M_worked_75 rfl rfl ?_
            | refine T_bipush (v := (-10)) (pc1 := 79) (pc := 77) k_M_worked_77 rfl (by decide) ?_
            | with_reducible refine T_isubN (pc1 := 80) (pc := 79) k_M_worked_79 (by decide) (by omega) ?_
            | refine T_isub (pc1 := 80) (pc := 79) k_M_worked_79 rfl ?_
            | refine T_ialdN (pc1 := 81) (pc := 80) k_M_worked_80 rfl (by first | exact ga G (by decide) rfl | assumption) (by omega) (by omega) (by first | assumption | (simp (disch := omega) only [pI_eq, pI_row, pI_col, va_up_self, va_up_ne, ne_eq, not_false_eq_true] <;> rfl) | rfl) ?_
            | refine T_iald (pc1 := 81) (pc := 80) k_M_worked_80 rfl (by first | exact ga G (by decide) rfl | assumption) (by assumption) ?_
            | refine T_iastN (pc1 := 82) (pc := 81) k_M_worked_81 rfl (by first | exact ga G (by decide) rfl | assumption) (by omega) (by omega) ?_
            | refine T_iincN (b := 1) (pc1 := 85) (pc := 82) k_M_worked_82 rfl rfl (by decide) ?_
            | refine T_iinc (v := (nI 1)) (pc1 := 85) (pc := 82) k_M_worked_82 rfl rfl (by decide) ?_
            | refine T_goto (tgt := 152) (pc := 85) k_M_worked_85 rfl ?_
            | refine T_iload (pc1 := 90) (pc := 88) k_M_worked_88 rfl rfl ?_
            | refine T_bipush (v := (-29)) (pc1 := 92) (pc := 90) k_M_worked_90 rfl (by decide) ?_
            | refine T_aload_n (pc1 := 96) (pc := 95) k_M_worked_95 rfl rfl ?_
            | refine T_aload_nN (pc1 := 96) (pc := 95) k_M_worked_95 rfl rfl ?_
            | refine T_getR (pc1 := 99) (pc := 96) k_M_worked_96 rfl f_M_58 rfl (by first | exact ga G (by decide) rfl | assumption) (by first | exact gr G (by decide) rfl | assumption) ?_
            | refine T_iload_n (pc1 := 100) (pc := 99) k_M_worked_99 rfl rfl ?_
            | refine T_iconst (v := (nI 1)) (pc1 := 101) (pc := 100) k_M_worked_100 rfl (by decide) ?_
            | with_reducible refine T_isubN (pc1 := 102) (pc := 101) k_M_worked_101 (by decide) (by omega) ?_
            | refine T_isub (pc1 := 102) (pc := 101) k_M_worked_101 rfl ?_
            | refine T_aload_n (pc1 := 103) (pc := 102) k_M_worked_102 rfl rfl ?_
            | refine T_aload_nN (pc1 := 103) (pc := 102) k_M_worked_102 rfl rfl ?_
            | refine T_getR (pc1 := 106) (pc := 103) k_M_worked_103 rfl f_M_58 rfl (by first | exact ga G (by decide) rfl | assumption) (by first | exact gr G (by decide) rfl | assumption) ?_
            | refine T_iload_n (pc1 := 107) (pc := 106) k_M_worked_106 rfl rfl ?_
            | refine T_iconst (v := (nI 1)) (pc1 := 108) (pc := 107) k_M_worked_107 rfl (by decide) ?_
            | with_reducible refine T_isubN (pc1 := 109) (pc := 108) k_M_worked_108 (by decide) (by omega) ?_
            | refine T_isub (pc1 := 109) (pc := 108) k_M_worked_108 rfl ?_
            | refine T_ialdN (pc1 := 110) (pc := 109) k_M_worked_109 rfl (by first | exact ga G (by decide) rfl | assumption) (by omega) (by omega) (by first | assumption | (simp (disch := omega) only [pI_eq, pI_row, pI_col, va_up_self, va_up_ne, ne_eq, not_false_eq_true] <;> rfl) | rfl) ?_
            | refine T_iald (pc1 := 110) (pc := 109) k_M_worked_109 rfl (by first | exact ga G (by decide) rfl | assumption) (by assumption) ?_
            | (with_reducible refine T_if_neN (tgt := 117) (pc1 := 113) (pc := 110) k_M_worked_110 (by decide) (by decide) (by omega) (fun hc => ?_) (fun hc => ?_) <;> first | (exfalso; omega) | skip)
            | refine T_if_ne_t (tgt := 117) (pc := 110) k_M_worked_110 rfl (by decide) ?_
            | refine T_if_ne_f (tgt := 117) (pc1 := 113) (pc := 110) k_M_worked_110 rfl rfl (by decide) ?_
            | refine T_if_ne (tgt := 117) (pc1 := 113) (pc := 110) k_M_worked_110 rfl rfl (fun hc => ?_) (fun hc => ?_)
            | refine T_iconst (v := (nI 1)) (pc1 := 114) (pc := 113) k_M_worked_113 rfl (by decide) ?_
            | refine T_goto (tgt := 118) (pc := 114) k_M_worked_114 rfl ?_
            | refine T_iconst (v := (nI 0)) (pc1 := 118) (pc := 117) k_M_worked_117 rfl (by decide) ?_
            | refine T_iastN (pc1 := 119) (pc := 118) k_M_worked_118 rfl (by first | exact ga G (by decide) rfl | assumption) (by omega) (by omega) ?_
            | refine T_goto (tgt := 152) (pc := 119) k_M_worked_119 rfl ?_
            | refine T_iinc (v := (-1)) (pc1 := 125) (pc := 122) k_M_worked_122 rfl rfl (by decide) ?_
            | refine T_aload_n (pc1 := 126) (pc := 125) k_M_worked_125 rfl rfl ?_
            | refine T_aload_nN (pc1 := 126) (pc := 125) k_M_worked_125 rfl rfl ?_
            | refine T_getR (pc1 := 129) (pc := 126) k_M_worked_126 rfl f_M_58 rfl (by first | exact ga G (by decide) rfl | assumption) (by first | exact gr G (by decide) rfl | assumption) ?_
            | refine T_iload_n (pc1 := 130) (pc := 129) k_M_worked_129 rfl rfl ?_
            | refine T_iconst (v := (nI 1)) (pc1 := 131) (pc := 130) k_M_worked_130 rfl (by decide) ?_
            | with_reducible refine T_isubN (pc1 := 132) (pc := 131) k_M_worked_131 (by decide) (by omega) ?_
            | refine T_isub (pc1 := 132) (pc := 131) k_M_worked_131 rfl ?_
            | refine T_iload (pc1 := 134) (pc := 132) k_M_worked_132 rfl rfl ?_
            | refine T_aload_n (pc1 := 135) (pc := 134) k_M_worked_134 rfl rfl ?_
            | refine T_aload_nN (pc1 := 135) (pc := 134) k_M_worked_134 rfl rfl ?_
            | refine T_getR (pc1 := 138) (pc := 135) k_M_worked_135 rfl f_M_58 rfl (by first | exact ga G (by decide) rfl | assumption) (by first | exact gr G (by decide) rfl | assumption) ?_
            | refine T_iload_n (pc1 := 139) (pc := 138) k_M_worked_138 rfl rfl ?_
            | refine T_iconst (v := (nI 1)) (pc1 := 140) (pc := 139) k_M_worked_139 rfl (by decide) ?_
            | with_reducible refine T_isubN (pc1 := 141) (pc := 140) k_M_worked_140 (by decide) (by omega) ?_
            | refine T_isub (pc1 := 141) (pc := 140) k_M_worked_140 rfl ?_
            | refine T_ialdN (pc1 := 142) (pc := 141) k_M_worked_141 rfl (by first | exact ga G (by decide) rfl | assumption) (by omega) (by omega) (by first | assumption | (simp (disch := omega) only [pI_eq, pI_row, pI_col, va_up_self, va_up_ne, ne_eq, not_false_eq_true] <;> rfl) | rfl) ?_
            | refine T_iald (pc1 := 142) (pc := 141) k_M_worked_141 rfl (by first | exact ga G (by decide) rfl | assumption) (by assumption) ?_
            | refine T_aload_n (pc1 := 143) (pc := 142) k_M_worked_142 rfl rfl ?_
            | refine T_aload_nN (pc1 := 143) (pc := 142) k_M_worked_142 rfl rfl ?_
            | refine T_getR (pc1 := 146) (pc := 143) k_M_worked_143 rfl f_M_58 rfl (by first | exact ga G (by decide) rfl | assumption) (by first | exact gr G (by decide) rfl | assumption) ?_
            | refine T_iload_n (pc1 := 147) (pc := 146) k_M_worked_146 rfl rfl ?_
            | refine T_ialdN (pc1 := 148) (pc := 147) k_M_worked_147 rfl (by first | exact ga G (by decide) rfl | assumption) (by omega) (by omega) (by first | assumption | (simp (disch := omega) only [pI_eq, pI_row, pI_col, va_up_self, va_up_ne, ne_eq, not_false_eq_true] <;> rfl) | rfl) ?_
            | refine T_iald (pc1 := 148) (pc := 147) k_M_worked_147 rfl (by first | exact ga G (by decide) rfl | assumption) (by assumption) ?_
            | (refine T_cS (As := [_, _, _]) (d1 := 1) (pc1 := 151) (pc := 148) k_M_worked_148 rfl (by decide) (Nat.le_of_ble_eq_true rfl) rfl o_M_done l_M_293 rfl (c_M_done (fun r hr => ?_)) <;> try dsimp only [psh])
            | refine T_iastN (pc1 := 152) (pc := 151) k_M_worked_151 rfl (by first | exact ga G (by decide) rfl | assumption) (by omega) (by omega) ?_
            | refine T_iincN (b := 1) (pc1 := 155) (pc := 152) k_M_worked_152 rfl rfl (by decide) ?_
            | refine T_iinc (v := (nI 1)) (pc1 := 155) (pc := 152) k_M_worked_152 rfl rfl (by decide) ?_
            | refine T_goto (tgt := 14) (pc := 155) k_M_worked_155 rfl ?_
            | refine T_aload_n (pc1 := 159) (pc := 158) k_M_worked_158 rfl rfl ?_
            | refine T_aload_nN (pc1 := 159) (pc := 158) k_M_worked_158 rfl rfl ?_
            | refine T_getR (pc1 := 162) (pc := 159) k_M_worked_159 rfl f_M_58 rfl (by first | exact ga G (by decide) rfl | assumption) (by first | exact gr G (by decide) rfl | assumption) ?_
            | refine T_iconst (v := (nI 0)) (pc1 := 163) (pc := 162) k_M_worked_162 rfl (by decide) ?_
            | refine T_ialdN (pc1 := 164) (pc := 163) k_M_worked_163 rfl (by first | exact ga G (by decide) rfl | assumption) (by omega) (by omega) (by first | assumption | (simp (disch := omega) only [pI_eq, pI_row, pI_col, va_up_self, va_up_ne, ne_eq, not_false_eq_true] <;> rfl) | rfl) ?_
            | refine T_iald (pc1 := 164) (pc := 163) k_M_worked_163 rfl (by first | exact ga G (by decide) rfl | assumption) (by assumption) ?_
            | refine T_retI (pc := 164) k_M_worked_164 rfl (by first | rfl | decide | assumption) ?_)
          first | (with_reducible refine T_icmp_neN (tgt := 122) (pc1 := 95) (pc := 92) k_M_worked_92 (by decide) (by decide) (by omega) (by omega) (fun hc => ?_) (fun hc => ?_) <;> first | (exfalso; omega) | skip) | refine T_icmp_ne_t (tgt := 122) (pc := 92) k_M_worked_92 rfl (by decide) ?_ | refine T_icmp_ne_f (tgt := 122) (pc1 := 95) (pc := 92) k_M_worked_92 rfl rfl (by decide) ?_ | refine T_icmp_ne (tgt := 122) (pc1 := 95) (pc := 92) k_M_worked_92 rfl rfl (fun hc => ?_) (fun hc => ?_)
          · -- a sign of two
            have h29 : ¬ x = -29 := hc
            have hp2 := o3 h10 h29
            rw [if_neg h29] at ih
            obtain ⟨p, rfl⟩ : ∃ p', p = p' + 2 := ⟨p - 2, by omega⟩
            have e1 : J 113 (p + 1) = pl (cod N t) nm k (p + 1) := hp _ (by omega)
            have e0 : J 113 p = pl (cod N t) nm k p := hp _ (by omega)
            refine T_iinc (v := (-1)) (pc1 := 125) (pc := 122) k_M_worked_122 rfl rfl (by decide) ?_
            rw [pk_m1]
            repeat' (first
              | refine T_sipush (v := (nI 156)) (pc1 := 3) (pc := 0) k_M_worked_0 rfl (by decide) ?_
              | refine T_bipush (v := (nI 100)) (pc1 := 5) (pc := 3) k_M_worked_3 rfl (by decide) ?_
              | refine T_iload_n (pc1 := 6) (pc := 5) k_M_worked_5 rfl rfl ?_
              | with_reducible refine T_imulN (pc1 := 7) (pc := 6) k_M_worked_6 (by decide) ?_
              | refine T_imul (pc1 := 7) (pc := 6) k_M_worked_6 rfl ?_
              | with_reducible refine T_iaddN (pc1 := 8) (pc := 7) k_M_worked_7 (by decide) ?_
              | refine T_iadd (pc1 := 8) (pc := 7) k_M_worked_7 rfl ?_
              | refine T_istore_n (pc1 := 9) (pc := 8) k_M_worked_8 rfl (Nat.le_of_ble_eq_true rfl) ?_
              | refine T_iconst (v := (nI 0)) (pc1 := 10) (pc := 9) k_M_worked_9 rfl (by decide) ?_
              | refine T_istore_n (pc1 := 11) (pc := 10) k_M_worked_10 rfl (Nat.le_of_ble_eq_true rfl) ?_
              | refine T_iconst (v := (nI 0)) (pc1 := 12) (pc := 11) k_M_worked_11 rfl (by decide) ?_
              | refine T_istore (pc1 := 14) (pc := 12) k_M_worked_12 rfl (Nat.le_of_ble_eq_true rfl) ?_
              | refine T_aload_n (pc1 := 17) (pc := 16) k_M_worked_16 rfl rfl ?_
              | refine T_aload_nN (pc1 := 17) (pc := 16) k_M_worked_16 rfl rfl ?_
              | refine T_getR (pc1 := 20) (pc := 17) k_M_worked_17 rfl f_M_9 rfl (by first | exact ga G (by decide) rfl | assumption) (by first | exact gr G (by decide) rfl | assumption) ?_
              | refine T_iload_n (pc1 := 21) (pc := 20) k_M_worked_20 rfl rfl ?_
              | refine T_iconst (v := (nI 2)) (pc1 := 22) (pc := 21) k_M_worked_21 rfl (by decide) ?_
              | with_reducible refine T_iaddN (pc1 := 23) (pc := 22) k_M_worked_22 (by decide) ?_
              | refine T_iadd (pc1 := 23) (pc := 22) k_M_worked_22 rfl ?_
              | refine T_ialdN (pc1 := 24) (pc := 23) k_M_worked_23 rfl (by first | exact ga G (by decide) rfl | assumption) (by omega) (by omega) (by first | assumption | (simp (disch := omega) only [pI_eq, pI_row, pI_col, va_up_self, va_up_ne, ne_eq, not_false_eq_true] <;> rfl) | rfl) ?_
              | refine T_iald (pc1 := 24) (pc := 23) k_M_worked_23 rfl (by first | exact ga G (by decide) rfl | assumption) (by assumption) ?_
              | (with_reducible refine T_icmp_geN (tgt := 158) (pc1 := 27) (pc := 24) k_M_worked_24 (by decide) (by decide) (by omega) (by omega) (fun hc => ?_) (fun hc => ?_) <;> first | (exfalso; omega) | skip)
              | refine T_icmp_ge_t (tgt := 158) (pc := 24) k_M_worked_24 rfl (by decide) ?_
              | refine T_icmp_ge_f (tgt := 158) (pc1 := 27) (pc := 24) k_M_worked_24 rfl rfl (by decide) ?_
              | refine T_icmp_ge (tgt := 158) (pc1 := 27) (pc := 24) k_M_worked_24 rfl rfl (fun hc => ?_) (fun hc => ?_)
              | refine T_aload_n (pc1 := 28) (pc := 27) k_M_worked_27 rfl rfl ?_
              | refine T_aload_nN (pc1 := 28) (pc := 27) k_M_worked_27 rfl rfl ?_
              | refine T_getR (pc1 := 31) (pc := 28) k_M_worked_28 rfl f_M_9 rfl (by first | exact ga G (by decide) rfl | assumption) (by first | exact gr G (by decide) rfl | assumption) ?_
              | refine T_iload_n (pc1 := 32) (pc := 31) k_M_worked_31 rfl rfl ?_
              | refine T_iconst (v := (nI 3)) (pc1 := 33) (pc := 32) k_M_worked_32 rfl (by decide) ?_
              | with_reducible refine T_iaddN (pc1 := 34) (pc := 33) k_M_worked_33 (by decide) ?_
              | refine T_iadd (pc1 := 34) (pc := 33) k_M_worked_33 rfl ?_
              | refine T_iload (pc1 := 36) (pc := 34) k_M_worked_34 rfl rfl ?_
              | with_reducible refine T_iaddN (pc1 := 37) (pc := 36) k_M_worked_36 (by decide) ?_
              | refine T_iadd (pc1 := 37) (pc := 36) k_M_worked_36 rfl ?_
              | refine T_ialdN (pc1 := 38) (pc := 37) k_M_worked_37 rfl (by first | exact ga G (by decide) rfl | assumption) (by omega) (by omega) (by first | assumption | (simp (disch := omega) only [pI_eq, pI_row, pI_col, va_up_self, va_up_ne, ne_eq, not_false_eq_true] <;> rfl) | rfl) ?_
              | refine T_iald (pc1 := 38) (pc := 37) k_M_worked_37 rfl (by first | exact ga G (by decide) rfl | assumption) (by assumption) ?_
              | refine T_istore (pc1 := 40) (pc := 38) k_M_worked_38 rfl (Nat.le_of_ble_eq_true rfl) ?_
              | refine T_iload (pc1 := 42) (pc := 40) k_M_worked_40 rfl rfl ?_
              | (with_reducible refine T_if_ltN (tgt := 59) (pc1 := 45) (pc := 42) k_M_worked_42 (by decide) (by decide) (by omega) ?_ <;> first | (exfalso; omega) | skip)
              | refine T_if_lt_t (tgt := 59) (pc := 42) k_M_worked_42 rfl (by decide) ?_
              | refine T_if_lt_f (tgt := 59) (pc1 := 45) (pc := 42) k_M_worked_42 rfl rfl (by decide) ?_
              | refine T_if_lt (tgt := 59) (pc1 := 45) (pc := 42) k_M_worked_42 rfl rfl (fun hc => ?_) (fun hc => ?_)
              | refine T_aload_n (pc1 := 46) (pc := 45) k_M_worked_45 rfl rfl ?_
              | refine T_aload_nN (pc1 := 46) (pc := 45) k_M_worked_45 rfl rfl ?_
              | refine T_getR (pc1 := 49) (pc := 46) k_M_worked_46 rfl f_M_58 rfl (by first | exact ga G (by decide) rfl | assumption) (by first | exact gr G (by decide) rfl | assumption) ?_
              | refine T_iload_n (pc1 := 50) (pc := 49) k_M_worked_49 rfl rfl ?_
              | refine T_iload (pc1 := 52) (pc := 50) k_M_worked_50 rfl rfl ?_
              | refine T_iastN (pc1 := 53) (pc := 52) k_M_worked_52 rfl (by first | exact ga G (by decide) rfl | assumption) (by omega) (by omega) ?_
              | refine T_iincN (b := 1) (pc1 := 56) (pc := 53) k_M_worked_53 rfl rfl (by decide) ?_
              | refine T_iinc (v := (nI 1)) (pc1 := 56) (pc := 53) k_M_worked_53 rfl rfl (by decide) ?_
              | refine T_goto (tgt := 152) (pc := 56) k_M_worked_56 rfl ?_
              | refine T_iload (pc1 := 61) (pc := 59) k_M_worked_59 rfl rfl ?_
              | refine T_bipush (v := (-10)) (pc1 := 63) (pc := 61) k_M_worked_61 rfl (by decide) ?_
              | (with_reducible refine T_icmp_ltN (tgt := 88) (pc1 := 66) (pc := 63) k_M_worked_63 (by decide) (by decide) (by omega) (by omega) (fun hc => ?_) (fun hc => ?_) <;> first | (exfalso; omega) | skip)
              | refine T_icmp_lt_t (tgt := 88) (pc := 63) k_M_worked_63 rfl (by decide) ?_
              | refine T_icmp_lt_f (tgt := 88) (pc1 := 66) (pc := 63) k_M_worked_63 rfl rfl (by decide) ?_
              | refine T_icmp_lt (tgt := 88) (pc1 := 66) (pc := 63) k_M_worked_63 rfl rfl (fun hc => ?_) (fun hc => ?_)
              | refine T_aload_n (pc1 := 67) (pc := 66) k_M_worked_66 rfl rfl ?_
              | refine T_aload_nN (pc1 := 67) (pc := 66) k_M_worked_66 rfl rfl ?_
              | refine T_getR (pc1 := 70) (pc := 67) k_M_worked_67 rfl f_M_58 rfl (by first | exact ga G (by decide) rfl | assumption) (by first | exact gr G (by decide) rfl | assumption) ?_
              | refine T_iload_n (pc1 := 71) (pc := 70) k_M_worked_70 rfl rfl ?_
              | refine T_aload_n (pc1 := 72) (pc := 71) k_M_worked_71 rfl rfl ?_
              | refine T_aload_nN (pc1 := 72) (pc := 71) k_M_worked_71 rfl rfl ?_
              | refine T_getR (pc1 := 75) (pc := 72) k_M_worked_72 rfl f_M_55 rfl (by first | exact ga G (by decide) rfl | assumption) (by first | exact gr G (by decide) rfl | assumption) ?_
              | refine T_iload (pc1 := 77) (pc := 75) k_M_worked_75 rfl rfl ?_
              | refine T_bipush (v := (-10)) (pc1 := 79) (pc := 77) k_M_worked_77 rfl (by decide) ?_
              | with_reducible refine T_isubN (pc1 := 80) (pc := 79) k_M_worked_79 (by decide) (by omega) ?_
              | refine T_isub (pc1 := 80) (pc := 79) k_M_worked_79 rfl ?_
              | refine T_ialdN (pc1 := 81) (pc := 80) k_M_worked_80 rfl (by first | exact ga G (by decide) rfl | assumption) (by omega) (by omega) (by first | assumption | (simp (disch := omega) only [pI_eq, pI_row, pI_col, va_up_self, va_up_ne, ne_eq, not_false_eq_true] <;> rfl) | rfl) ?_
              | refine T_iald (pc1 := 81) (pc := 80) k_M_worked_80 rfl (by first | exact ga G (by decide) rfl | assumption) (by assumption) ?_
              | refine T_iastN (pc1 := 82) (pc := 81) k_M_worked_81 rfl (by first | exact ga G (by decide) rfl | assumption) (by omega) (by omega) ?_
              | refine T_iincN (b := 1) (pc1 := 85) (pc := 82) k_M_worked_82 rfl rfl (by decide) ?_
              | refine T_iinc (v := (nI 1)) (pc1 := 85) (pc := 82) k_M_worked_82 rfl rfl (by decide) ?_
              | refine T_goto (tgt := 152) (pc := 85) k_M_worked_85 rfl ?_
              | refine T_iload (pc1 := 90) (pc := 88) k_M_worked_88 rfl rfl ?_
              | refine T_bipush (v := (-29)) (pc1 := 92) (pc := 90) k_M_worked_90 rfl (by decide) ?_
              | (with_reducible refine T_icmp_neN (tgt := 122) (pc1 := 95) (pc := 92) k_M_worked_92 (by decide) (by decide) (by omega) (by omega) (fun hc => ?_) (fun hc => ?_) <;> first | (exfalso; omega) | skip)
              | refine T_icmp_ne_t (tgt := 122) (pc := 92) k_M_worked_92 rfl (by decide) ?_
              | refine T_icmp_ne_f (tgt := 122) (pc1 := 95) (pc := 92) k_M_worked_92 rfl rfl (by decide) ?_
              | refine T_icmp_ne (tgt := 122) (pc1 := 95) (pc := 92) k_M_worked_92 rfl rfl (fun hc => ?_) (fun hc => ?_)
              | refine T_aload_n (pc1 := 96) (pc := 95) k_M_worked_95 rfl rfl ?_
              | refine T_aload_nN (pc1 := 96) (pc := 95) k_M_worked_95 rfl rfl ?_
              | refine T_getR (pc1 := 99) (pc := 96) k_M_worked_96 rfl f_M_58 rfl (by first | exact ga G (by decide) rfl | assumption) (by first | exact gr G (by decide) rfl | assumption) ?_
              | refine T_iload_n (pc1 := 100) (pc := 99) k_M_worked_99 rfl rfl ?_
              | refine T_iconst (v := (nI 1)) (pc1 := 101) (pc := 100) k_M_worked_100 rfl (by decide) ?_
              | with_reducible refine T_isubN (pc1 := 102) (pc := 101) k_M_worked_101 (by decide) (by omega) ?_
              | refine T_isub (pc1 := 102) (pc := 101) k_M_worked_101 rfl ?_
              | refine T_aload_n (pc1 := 103) (pc := 102) k_M_worked_102 rfl rfl ?_
              | refine T_aload_nN (pc1 := 103) (pc := 102) k_M_worked_102 rfl rfl ?_
              | refine T_getR (pc1 := 106) (pc := 103) k_M_worked_103 rfl f_M_58 rfl (by first | exact ga G (by decide) rfl | assumption) (by first | exact gr G (by decide) rfl | assumption) ?_
              | refine T_iload_n (pc1 := 107) (pc := 106) k_M_worked_106 rfl rfl ?_
              | refine T_iconst (v := (nI 1)) (pc1 := 108) (pc := 107) k_M_worked_107 rfl (by decide) ?_
              | with_reducible refine T_isubN (pc1 := 109) (pc := 108) k_M_worked_108 (by decide) (by omega) ?_
              | refine T_isub (pc1 := 109) (pc := 108) k_M_worked_108 rfl ?_
              | refine T_ialdN (pc1 := 110) (pc := 109) k_M_worked_109 rfl (by first | exact ga G (by decide) rfl | assumption) (by omega) (by omega) (by first | assumption | (simp (disch := omega) only [pI_eq, pI_row, pI_col, va_up_self, va_up_ne, ne_eq, not_false_eq_true] <;> rfl) | rfl) ?_
              | refine T_iald (pc1 := 110) (pc := 109) k_M_worked_109 rfl (by first | exact ga G (by decide) rfl | assumption) (by assumption) ?_
              | (with_reducible refine T_if_neN (tgt := 117) (pc1 := 113) (pc := 110) k_M_worked_110 (by decide) (by decide) (by omega) (fun hc => ?_) (fun hc => ?_) <;> first | (exfalso; omega) | skip)
              | refine T_if_ne_t (tgt := 117) (pc := 110) k_M_worked_110 rfl (by decide) ?_
              | refine T_if_ne_f (tgt := 117) (pc1 := 113) (pc := 110) k_M_worked_110 rfl rfl (by decide) ?_
              | refine T_if_ne (tgt := 117) (pc1 := 113) (pc := 110) k_M_worked_110 rfl rfl (fun hc => ?_) (fun hc => ?_)
              | refine T_iconst (v := (nI 1)) (pc1 := 114) (pc := 113) k_M_worked_113 rfl (by decide) ?_
              | refine T_goto (tgt := 118) (pc := 114) k_M_worked_114 rfl ?_
              | refine T_iconst (v := (nI 0)) (pc1 := 118) (pc := 117) k_M_worked_117 rfl (by decide) ?_
              | refine T_iastN (pc1 := 119) (pc := 118) k_M_worked_118 rfl (by first | exact ga G (by decide) rfl | assumption) (by omega) (by omega) ?_
              | refine T_goto (tgt := 152) (pc := 119) k_M_worked_119 rfl ?_
              | refine T_iinc (v := (-1)) (pc1 := 125) (pc := 122) k_M_worked_122 rfl rfl (by decide) ?_
              | refine T_aload_n (pc1 := 126) (pc := 125) k_M_worked_125 rfl rfl ?_
              | refine T_aload_nN (pc1 := 126) (pc := 125) k_M_worked_125 rfl rfl ?_
              | refine T_getR (pc1 := 129) (pc := 126) k_M_worked_126 rfl f_M_58 rfl (by first | exact ga G (by decide) rfl | assumption) (by first | exact gr G (by decide) rfl | assumption) ?_
              | refine T_iload_n (pc1 := 130) (pc := 129) k_M_worked_129 rfl rfl ?_
              | refine T_iconst (v := (nI 1)) (pc1 := 131) (pc := 130) k_M_worked_130 rfl (by decide) ?_
              | with_reducible refine T_isubN (pc1 := 132) (pc := 131) k_M_worked_131 (by decide) (by omega) ?_
              | refine T_isub (pc1 := 132) (pc := 131) k_M_worked_131 rfl ?_
              | refine T_iload (pc1 := 134) (pc := 132) k_M_worked_132 rfl rfl ?_
              | refine T_aload_n (pc1 := 135) (pc := 134) k_M_worked_134 rfl rfl ?_
              | refine T_aload_nN (pc1 := 135) (pc := 134) k_M_worked_134 rfl rfl ?_
              | refine T_getR (pc1 := 138) (pc := 135) k_M_worked_135 rfl f_M_58 rfl (by first | exact ga G (by decide) rfl | assumption) (by first | exact gr G (by decide) rfl | assumption) ?_
              | refine T_iload_n (pc1 := 139) (pc := 138) k_M_worked_138 rfl rfl ?_
              | refine T_iconst (v := (nI 1)) (pc1 := 140) (pc := 139) k_M_worked_139 rfl (by decide) ?_
              | with_reducible refine T_isubN (pc1 := 141) (pc := 140) k_M_worked_140 (by decide) (by omega) ?_
              | refine T_isub (pc1 := 141) (pc := 140) k_M_worked_140 rfl ?_
              | refine T_ialdN (pc1 := 142) (pc := 141) k_M_worked_141 rfl (by first | exact ga G (by decide) rfl | assumption) (by omega) (by omega) (by first | assumption | (simp (disch := omega) only [pI_eq, pI_row, pI_col, va_up_self, va_up_ne, ne_eq, not_false_eq_true] <;> rfl) | rfl) ?_
              | refine T_iald (pc1 := 142) (pc := 141) k_M_worked_141 rfl (by first | exact ga G (by decide) rfl | assumption) (by assumption) ?_
              | refine T_aload_n (pc1 := 143) (pc := 142) k_M_worked_142 rfl rfl ?_
              | refine T_aload_nN (pc1 := 143) (pc := 142) k_M_worked_142 rfl rfl ?_
              | refine T_getR (pc1 := 146) (pc := 143) k_M_worked_143 rfl f_M_58 rfl (by first | exact ga G (by decide) rfl | assumption) (by first | exact gr G (by decide) rfl | assumption) ?_
              | refine T_iload_n (pc1 := 147) (pc := 146) k_M_worked_146 rfl rfl ?_
              | refine T_ialdN (pc1 := 148) (pc := 147) k_M_worked_147 rfl (by first | exact ga G (by decide) rfl | assumption) (by omega) (by omega) (by first | assumption | (simp (disch := omega) only [pI_eq, pI_row, pI_col, va_up_self, va_up_ne, ne_eq, not_false_eq_true] <;> rfl) | rfl) ?_
              | refine T_iald (pc1 := 148) (pc := 147) k_M_worked_147 rfl (by first | exact ga G (by decide) rfl | assumption) (by assumption) ?_
              | (refine T_cS (As := [_, _, _]) (d1 := 1) (pc1 := 151) (pc := 148) k_M_worked_148 rfl (by decide) (Nat.le_of_ble_eq_true rfl) rfl o_M_done l_M_293 rfl (c_M_done (fun r hr => ?_)) <;> try dsimp only [psh])
              | refine T_iastN (pc1 := 152) (pc := 151) k_M_worked_151 rfl (by first | exact ga G (by decide) rfl | assumption) (by omega) (by omega) ?_
              | refine T_iincN (b := 1) (pc1 := 155) (pc := 152) k_M_worked_152 rfl rfl (by decide) ?_
              | refine T_iinc (v := (nI 1)) (pc1 := 155) (pc := 152) k_M_worked_152 rfl rfl (by decide) ?_
              | refine T_goto (tgt := 14) (pc := 155) k_M_worked_155 rfl ?_
              | refine T_aload_n (pc1 := 159) (pc := 158) k_M_worked_158 rfl rfl ?_
              | refine T_aload_nN (pc1 := 159) (pc := 158) k_M_worked_158 rfl rfl ?_
              | refine T_getR (pc1 := 162) (pc := 159) k_M_worked_159 rfl f_M_58 rfl (by first | exact ga G (by decide) rfl | assumption) (by first | exact gr G (by decide) rfl | assumption) ?_
              | refine T_iconst (v := (nI 0)) (pc1 := 163) (pc := 162) k_M_worked_162 rfl (by decide) ?_
              | refine T_ialdN (pc1 := 164) (pc := 163) k_M_worked_163 rfl (by first | exact ga G (by decide) rfl | assumption) (by omega) (by omega) (by first | assumption | (simp (disch := omega) only [pI_eq, pI_row, pI_col, va_up_self, va_up_ne, ne_eq, not_false_eq_true] <;> rfl) | rfl) ?_
              | refine T_iald (pc1 := 164) (pc := 163) k_M_worked_163 rfl (by first | exact ga G (by decide) rfl | assumption) (by assumption) ?_
              | refine T_retI (pc := 164) k_M_worked_164 rfl (by first | rfl | decide | assumption) ?_)
            refine ih _ _ (by omega) (eqx_pI hJ _ (by decide)) (fun j hj => ?_)
            rw [pl, hdd, hx, if_neg hn0, if_neg h10, if_neg h29, pI_self]
            by_cases hjp : j = p
            · subst hjp
              rw [show j + 2 - 2 = j by omega, show j + 2 - 1 = j + 1 by omega, va_up_self]
              show va_up (J 113) (j + 1 - 1) _ j = _
              rw [show j + 1 - 1 = j by omega, va_up_self, hr]
            · show va_up (J 113) (p + 1 - 1) _ j = va_up _ (p + 2 - 2) _ j
              rw [va_up_ne _ _ (by omega), va_up_ne _ _ (by omega)]
              exact hp j (by omega)
          · -- not
            have h29 : x = -29 := Decidable.not_not.mp hc
            have hp1 := o2 h29
            rw [if_pos h29] at ih
            have e0 : J 113 (p - 1) = pl (cod N t) nm k (p - 1) := hp _ (by omega)
            repeat' (first
              | refine T_sipush (v := (nI 156)) (pc1 := 3) (pc := 0) k_M_worked_0 rfl (by decide) ?_
              | refine T_bipush (v := (nI 100)) (pc1 := 5) (pc := 3) k_M_worked_3 rfl (by decide) ?_
              | refine T_iload_n (pc1 := 6) (pc := 5) k_M_worked_5 rfl rfl ?_
              | with_reducible refine T_imulN (pc1 := 7) (pc := 6) k_M_worked_6 (by decide) ?_
              | refine T_imul (pc1 := 7) (pc := 6) k_M_worked_6 rfl ?_
              | with_reducible refine T_iaddN (pc1 := 8) (pc := 7) k_M_worked_7 (by decide) ?_
              | refine T_iadd (pc1 := 8) (pc := 7) k_M_worked_7 rfl ?_
              | refine T_istore_n (pc1 := 9) (pc := 8) k_M_worked_8 rfl (Nat.le_of_ble_eq_true rfl) ?_
              | refine T_iconst (v := (nI 0)) (pc1 := 10) (pc := 9) k_M_worked_9 rfl (by decide) ?_
              | refine T_istore_n (pc1 := 11) (pc := 10) k_M_worked_10 rfl (Nat.le_of_ble_eq_true rfl) ?_
              | refine T_iconst (v := (nI 0)) (pc1 := 12) (pc := 11) k_M_worked_11 rfl (by decide) ?_
              | refine T_istore (pc1 := 14) (pc := 12) k_M_worked_12 rfl (Nat.le_of_ble_eq_true rfl) ?_
              | refine T_aload_n (pc1 := 17) (pc := 16) k_M_worked_16 rfl rfl ?_
              | refine T_aload_nN (pc1 := 17) (pc := 16) k_M_worked_16 rfl rfl ?_
              | refine T_getR (pc1 := 20) (pc := 17) k_M_worked_17 rfl f_M_9 rfl (by first | exact ga G (by decide) rfl | assumption) (by first | exact gr G (by decide) rfl | assumption) ?_
              | refine T_iload_n (pc1 := 21) (pc := 20) k_M_worked_20 rfl rfl ?_
              | refine T_iconst (v := (nI 2)) (pc1 := 22) (pc := 21) k_M_worked_21 rfl (by decide) ?_
              | with_reducible refine T_iaddN (pc1 := 23) (pc := 22) k_M_worked_22 (by decide) ?_
              | refine T_iadd (pc1 := 23) (pc := 22) k_M_worked_22 rfl ?_
              | refine T_ialdN (pc1 := 24) (pc := 23) k_M_worked_23 rfl (by first | exact ga G (by decide) rfl | assumption) (by omega) (by omega) (by first | assumption | (simp (disch := omega) only [pI_eq, pI_row, pI_col, va_up_self, va_up_ne, ne_eq, not_false_eq_true] <;> rfl) | rfl) ?_
              | refine T_iald (pc1 := 24) (pc := 23) k_M_worked_23 rfl (by first | exact ga G (by decide) rfl | assumption) (by assumption) ?_
              | (with_reducible refine T_icmp_geN (tgt := 158) (pc1 := 27) (pc := 24) k_M_worked_24 (by decide) (by decide) (by omega) (by omega) (fun hc => ?_) (fun hc => ?_) <;> first | (exfalso; omega) | skip)
              | refine T_icmp_ge_t (tgt := 158) (pc := 24) k_M_worked_24 rfl (by decide) ?_
              | refine T_icmp_ge_f (tgt := 158) (pc1 := 27) (pc := 24) k_M_worked_24 rfl rfl (by decide) ?_
              | refine T_icmp_ge (tgt := 158) (pc1 := 27) (pc := 24) k_M_worked_24 rfl rfl (fun hc => ?_) (fun hc => ?_)
              | refine T_aload_n (pc1 := 28) (pc := 27) k_M_worked_27 rfl rfl ?_
              | refine T_aload_nN (pc1 := 28) (pc := 27) k_M_worked_27 rfl rfl ?_
              | refine T_getR (pc1 := 31) (pc := 28) k_M_worked_28 rfl f_M_9 rfl (by first | exact ga G (by decide) rfl | assumption) (by first | exact gr G (by decide) rfl | assumption) ?_
              | refine T_iload_n (pc1 := 32) (pc := 31) k_M_worked_31 rfl rfl ?_
              | refine T_iconst (v := (nI 3)) (pc1 := 33) (pc := 32) k_M_worked_32 rfl (by decide) ?_
              | with_reducible refine T_iaddN (pc1 := 34) (pc := 33) k_M_worked_33 (by decide) ?_
              | refine T_iadd (pc1 := 34) (pc := 33) k_M_worked_33 rfl ?_
              | refine T_iload (pc1 := 36) (pc := 34) k_M_worked_34 rfl rfl ?_
              | with_reducible refine T_iaddN (pc1 := 37) (pc := 36) k_M_worked_36 (by decide) ?_
              | refine T_iadd (pc1 := 37) (pc := 36) k_M_worked_36 rfl ?_
              | refine T_ialdN (pc1 := 38) (pc := 37) k_M_worked_37 rfl (by first | exact ga G (by decide) rfl | assumption) (by omega) (by omega) (by first | assumption | (simp (disch := omega) only [pI_eq, pI_row, pI_col, va_up_self, va_up_ne, ne_eq, not_false_eq_true] <;> rfl) | rfl) ?_
              | refine T_iald (pc1 := 38) (pc := 37) k_M_worked_37 rfl (by first | exact ga G (by decide) rfl | assumption) (by assumption) ?_
              | refine T_istore (pc1 := 40) (pc := 38) k_M_worked_38 rfl (Nat.le_of_ble_eq_true rfl) ?_
              | refine T_iload (pc1 := 42) (pc := 40) k_M_worked_40 rfl rfl ?_
              | (with_reducible refine T_if_ltN (tgt := 59) (pc1 := 45) (pc := 42) k_M_worked_42 (by decide) (by decide) (by omega) ?_ <;> first | (exfalso; omega) | skip)
              | refine T_if_lt_t (tgt := 59) (pc := 42) k_M_worked_42 rfl (by decide) ?_
              | refine T_if_lt_f (tgt := 59) (pc1 := 45) (pc := 42) k_M_worked_42 rfl rfl (by decide) ?_
              | refine T_if_lt (tgt := 59) (pc1 := 45) (pc := 42) k_M_worked_42 rfl rfl (fun hc => ?_) (fun hc => ?_)
              | refine T_aload_n (pc1 := 46) (pc := 45) k_M_worked_45 rfl rfl ?_
              | refine T_aload_nN (pc1 := 46) (pc := 45) k_M_worked_45 rfl rfl ?_
              | refine T_getR (pc1 := 49) (pc := 46) k_M_worked_46 rfl f_M_58 rfl (by first | exact ga G (by decide) rfl | assumption) (by first | exact gr G (by decide) rfl | assumption) ?_
              | refine T_iload_n (pc1 := 50) (pc := 49) k_M_worked_49 rfl rfl ?_
              | refine T_iload (pc1 := 52) (pc := 50) k_M_worked_50 rfl rfl ?_
              | refine T_iastN (pc1 := 53) (pc := 52) k_M_worked_52 rfl (by first | exact ga G (by decide) rfl | assumption) (by omega) (by omega) ?_
              | refine T_iincN (b := 1) (pc1 := 56) (pc := 53) k_M_worked_53 rfl rfl (by decide) ?_
              | refine T_iinc (v := (nI 1)) (pc1 := 56) (pc := 53) k_M_worked_53 rfl rfl (by decide) ?_
              | refine T_goto (tgt := 152) (pc := 56) k_M_worked_56 rfl ?_
              | refine T_iload (pc1 := 61) (pc := 59) k_M_worked_59 rfl rfl ?_
              | refine T_bipush (v := (-10)) (pc1 := 63) (pc := 61) k_M_worked_61 rfl (by decide) ?_
              | (with_reducible refine T_icmp_ltN (tgt := 88) (pc1 := 66) (pc := 63) k_M_worked_63 (by decide) (by decide) (by omega) (by omega) (fun hc => ?_) (fun hc => ?_) <;> first | (exfalso; omega) | skip)
              | refine T_icmp_lt_t (tgt := 88) (pc := 63) k_M_worked_63 rfl (by decide) ?_
              | refine T_icmp_lt_f (tgt := 88) (pc1 := 66) (pc := 63) k_M_worked_63 rfl rfl (by decide) ?_
              | refine T_icmp_lt (tgt := 88) (pc1 := 66) (pc := 63) k_M_worked_63 rfl rfl (fun hc => ?_) (fun hc => ?_)
              | refine T_aload_n (pc1 := 67) (pc := 66) k_M_worked_66 rfl rfl ?_
              | refine T_aload_nN (pc1 := 67) (pc := 66) k_M_worked_66 rfl rfl ?_
              | refine T_getR (pc1 := 70) (pc := 67) k_M_worked_67 rfl f_M_58 rfl (by first | exact ga G (by decide) rfl | assumption) (by first | exact gr G (by decide) rfl | assumption) ?_
              | refine T_iload_n (pc1 := 71) (pc := 70) k_M_worked_70 rfl rfl ?_
              | refine T_aload_n (pc1 := 72) (pc := 71) k_M_worked_71 rfl rfl ?_
              | refine T_aload_nN (pc1 := 72) (pc := 71) k_M_worked_71 rfl rfl ?_
              | refine T_getR (pc1 := 75) (pc := 72) k_M_worked_72 rfl f_M_55 rfl (by first | exact ga G (by decide) rfl | assumption) (by first | exact gr G (by decide) rfl | assumption) ?_
              | refine T_iload (pc1 := 77) (pc := 75) k_M_worked_75 rfl rfl ?_
              | refine T_bipush (v := (-10)) (pc1 := 79) (pc := 77) k_M_worked_77 rfl (by decide) ?_
              | with_reducible refine T_isubN (pc1 := 80) (pc := 79) k_M_worked_79 (by decide) (by omega) ?_
              | refine T_isub (pc1 := 80) (pc := 79) k_M_worked_79 rfl ?_
              | refine T_ialdN (pc1 := 81) (pc := 80) k_M_worked_80 rfl (by first | exact ga G (by decide) rfl | assumption) (by omega) (by omega) (by first | assumption | (simp (disch := omega) only [pI_eq, pI_row, pI_col, va_up_self, va_up_ne, ne_eq, not_false_eq_true] <;> rfl) | rfl) ?_
              | refine T_iald (pc1 := 81) (pc := 80) k_M_worked_80 rfl (by first | exact ga G (by decide) rfl | assumption) (by assumption) ?_
              | refine T_iastN (pc1 := 82) (pc := 81) k_M_worked_81 rfl (by first | exact ga G (by decide) rfl | assumption) (by omega) (by omega) ?_
              | refine T_iincN (b := 1) (pc1 := 85) (pc := 82) k_M_worked_82 rfl rfl (by decide) ?_
              | refine T_iinc (v := (nI 1)) (pc1 := 85) (pc := 82) k_M_worked_82 rfl rfl (by decide) ?_
              | refine T_goto (tgt := 152) (pc := 85) k_M_worked_85 rfl ?_
              | refine T_iload (pc1 := 90) (pc := 88) k_M_worked_88 rfl rfl ?_
              | refine T_bipush (v := (-29)) (pc1 := 92) (pc := 90) k_M_worked_90 rfl (by decide) ?_
              | (with_reducible refine T_icmp_neN (tgt := 122) (pc1 := 95) (pc := 92) k_M_worked_92 (by decide) (by decide) (by omega) (by omega) (fun hc => ?_) (fun hc => ?_) <;> first | (exfalso; omega) | skip)
              | refine T_icmp_ne_t (tgt := 122) (pc := 92) k_M_worked_92 rfl (by decide) ?_
              | refine T_icmp_ne_f (tgt := 122) (pc1 := 95) (pc := 92) k_M_worked_92 rfl rfl (by decide) ?_
              | refine T_icmp_ne (tgt := 122) (pc1 := 95) (pc := 92) k_M_worked_92 rfl rfl (fun hc => ?_) (fun hc => ?_)
              | refine T_aload_n (pc1 := 96) (pc := 95) k_M_worked_95 rfl rfl ?_
              | refine T_aload_nN (pc1 := 96) (pc := 95) k_M_worked_95 rfl rfl ?_
              | refine T_getR (pc1 := 99) (pc := 96) k_M_worked_96 rfl f_M_58 rfl (by first | exact ga G (by decide) rfl | assumption) (by first | exact gr G (by decide) rfl | assumption) ?_
              | refine T_iload_n (pc1 := 100) (pc := 99) k_M_worked_99 rfl rfl ?_
              | refine T_iconst (v := (nI 1)) (pc1 := 101) (pc := 100) k_M_worked_100 rfl (by decide) ?_
              | with_reducible refine T_isubN (pc1 := 102) (pc := 101) k_M_worked_101 (by decide) (by omega) ?_
              | refine T_isub (pc1 := 102) (pc := 101) k_M_worked_101 rfl ?_
              | refine T_aload_n (pc1 := 103) (pc := 102) k_M_worked_102 rfl rfl ?_
              | refine T_aload_nN (pc1 := 103) (pc := 102) k_M_worked_102 rfl rfl ?_
              | refine T_getR (pc1 := 106) (pc := 103) k_M_worked_103 rfl f_M_58 rfl (by first | exact ga G (by decide) rfl | assumption) (by first | exact gr G (by decide) rfl | assumption) ?_
              | refine T_iload_n (pc1 := 107) (pc := 106) k_M_worked_106 rfl rfl ?_
              | refine T_iconst (v := (nI 1)) (pc1 := 108) (pc := 107) k_M_worked_107 rfl (by decide) ?_
              | with_reducible refine T_isubN (pc1 := 109) (pc := 108) k_M_worked_108 (by decide) (by omega) ?_
              | refine T_isub (pc1 := 109) (pc := 108) k_M_worked_108 rfl ?_
              | refine T_ialdN (pc1 := 110) (pc := 109) k_M_worked_109 rfl (by first | exact ga G (by decide) rfl | assumption) (by omega) (by omega) (by first | assumption | (simp (disch := omega) only [pI_eq, pI_row, pI_col, va_up_self, va_up_ne, ne_eq, not_false_eq_true] <;> rfl) | rfl) ?_
              | refine T_iald (pc1 := 110) (pc := 109) k_M_worked_109 rfl (by first | exact ga G (by decide) rfl | assumption) (by assumption) ?_
              | (with_reducible refine T_if_neN (tgt := 117) (pc1 := 113) (pc := 110) k_M_worked_110 (by decide) (by decide) (by omega) (fun hc => ?_) (fun hc => ?_) <;> first | (exfalso; omega) | skip)
              | refine T_if_ne_t (tgt := 117) (pc := 110) k_M_worked_110 rfl (by decide) ?_
              | refine T_if_ne_f (tgt := 117) (pc1 := 113) (pc := 110) k_M_worked_110 rfl rfl (by decide) ?_
              | refine T_if_ne (tgt := 117) (pc1 := 113) (pc := 110) k_M_worked_110 rfl rfl (fun hc => ?_) (fun hc => ?_)
              | refine T_iconst (v := (nI 1)) (pc1 := 114) (pc := 113) k_M_worked_113 rfl (by decide) ?_
              | refine T_goto (tgt := 118) (pc := 114) k_M_worked_114 rfl ?_
              | refine T_iconst (v := (nI 0)) (pc1 := 118) (pc := 117) k_M_worked_117 rfl (by decide) ?_
              | refine T_iastN (pc1 := 119) (pc := 118) k_M_worked_118 rfl (by first | exact ga G (by decide) rfl | assumption) (by omega) (by omega) ?_
              | refine T_goto (tgt := 152) (pc := 119) k_M_worked_119 rfl ?_
              | refine T_iinc (v := (-1)) (pc1 := 125) (pc := 122) k_M_worked_122 rfl rfl (by decide) ?_
              | refine T_aload_n (pc1 := 126) (pc := 125) k_M_worked_125 rfl rfl ?_
              | refine T_aload_nN (pc1 := 126) (pc := 125) k_M_worked_125 rfl rfl ?_
              | refine T_getR (pc1 := 129) (pc := 126) k_M_worked_126 rfl f_M_58 rfl (by first | exact ga G (by decide) rfl | assumption) (by first | exact gr G (by decide) rfl | assumption) ?_
              | refine T_iload_n (pc1 := 130) (pc := 129) k_M_worked_129 rfl rfl ?_
              | refine T_iconst (v := (nI 1)) (pc1 := 131) (pc := 130) k_M_worked_130 rfl (by decide) ?_
              | with_reducible refine T_isubN (pc1 := 132) (pc := 131) k_M_worked_131 (by decide) (by omega) ?_
              | refine T_isub (pc1 := 132) (pc := 131) k_M_worked_131 rfl ?_
              | refine T_iload (pc1 := 134) (pc := 132) k_M_worked_132 rfl rfl ?_
              | refine T_aload_n (pc1 := 135) (pc := 134) k_M_worked_134 rfl rfl ?_
              | refine T_aload_nN (pc1 := 135) (pc := 134) k_M_worked_134 rfl rfl ?_
              | refine T_getR (pc1 := 138) (pc := 135) k_M_worked_135 rfl f_M_58 rfl (by first | exact ga G (by decide) rfl | assumption) (by first | exact gr G (by decide) rfl | assumption) ?_
              | refine T_iload_n (pc1 := 139) (pc := 138) k_M_worked_138 rfl rfl ?_
              | refine T_iconst (v := (nI 1)) (pc1 := 140) (pc := 139) k_M_worked_139 rfl (by decide) ?_
              | with_reducible refine T_isubN (pc1 := 141) (pc := 140) k_M_worked_140 (by decide) (by omega) ?_
              | refine T_isub (pc1 := 141) (pc := 140) k_M_worked_140 rfl ?_
              | refine T_ialdN (pc1 := 142) (pc := 141) k_M_worked_141 rfl (by first | exact ga G (by decide) rfl | assumption) (by omega) (by omega) (by first | assumption | (simp (disch := omega) only [pI_eq, pI_row, pI_col, va_up_self, va_up_ne, ne_eq, not_false_eq_true] <;> rfl) | rfl) ?_
              | refine T_iald (pc1 := 142) (pc := 141) k_M_worked_141 rfl (by first | exact ga G (by decide) rfl | assumption) (by assumption) ?_
              | refine T_aload_n (pc1 := 143) (pc := 142) k_M_worked_142 rfl rfl ?_
              | refine T_aload_nN (pc1 := 143) (pc := 142) k_M_worked_142 rfl rfl ?_
              | refine T_getR (pc1 := 146) (pc := 143) k_M_worked_143 rfl f_M_58 rfl (by first | exact ga G (by decide) rfl | assumption) (by first | exact gr G (by decide) rfl | assumption) ?_
              | refine T_iload_n (pc1 := 147) (pc := 146) k_M_worked_146 rfl rfl ?_
              | refine T_ialdN (pc1 := 148) (pc := 147) k_M_worked_147 rfl (by first | exact ga G (by decide) rfl | assumption) (by omega) (by omega) (by first | assumption | (simp (disch := omega) only [pI_eq, pI_row, pI_col, va_up_self, va_up_ne, ne_eq, not_false_eq_true] <;> rfl) | rfl) ?_
              | refine T_iald (pc1 := 148) (pc := 147) k_M_worked_147 rfl (by first | exact ga G (by decide) rfl | assumption) (by assumption) ?_
              | (refine T_cS (As := [_, _, _]) (d1 := 1) (pc1 := 151) (pc := 148) k_M_worked_148 rfl (by decide) (Nat.le_of_ble_eq_true rfl) rfl o_M_done l_M_293 rfl (c_M_done (fun r hr => ?_)) <;> try dsimp only [psh])
              | refine T_iastN (pc1 := 152) (pc := 151) k_M_worked_151 rfl (by first | exact ga G (by decide) rfl | assumption) (by omega) (by omega) ?_
              | refine T_iincN (b := 1) (pc1 := 155) (pc := 152) k_M_worked_152 rfl rfl (by decide) ?_
              | refine T_iinc (v := (nI 1)) (pc1 := 155) (pc := 152) k_M_worked_152 rfl rfl (by decide) ?_
              | refine T_goto (tgt := 14) (pc := 155) k_M_worked_155 rfl ?_
              | refine T_aload_n (pc1 := 159) (pc := 158) k_M_worked_158 rfl rfl ?_
              | refine T_aload_nN (pc1 := 159) (pc := 158) k_M_worked_158 rfl rfl ?_
              | refine T_getR (pc1 := 162) (pc := 159) k_M_worked_159 rfl f_M_58 rfl (by first | exact ga G (by decide) rfl | assumption) (by first | exact gr G (by decide) rfl | assumption) ?_
              | refine T_iconst (v := (nI 0)) (pc1 := 163) (pc := 162) k_M_worked_162 rfl (by decide) ?_
              | refine T_ialdN (pc1 := 164) (pc := 163) k_M_worked_163 rfl (by first | exact ga G (by decide) rfl | assumption) (by omega) (by omega) (by first | assumption | (simp (disch := omega) only [pI_eq, pI_row, pI_col, va_up_self, va_up_ne, ne_eq, not_false_eq_true] <;> rfl) | rfl) ?_
              | refine T_iald (pc1 := 164) (pc := 163) k_M_worked_163 rfl (by first | exact ga G (by decide) rfl | assumption) (by assumption) ?_
              | refine T_retI (pc := 164) k_M_worked_164 rfl (by first | rfl | decide | assumption) ?_)
            all_goals
              refine ih _ _ (by omega) (eqx_pI hJ _ (by decide)) (fun j hj => ?_)
              rw [pl, hdd, hx, if_neg hn0, if_neg h10, if_pos h29, pI_self]
              by_cases hjp : j = p - 1
              · subst hjp
                rw [va_up_self, va_up_self]
                first | rw [if_pos (by assumption)] | rw [if_neg (by assumption)] | rw [if_pos (Decidable.not_not.mp (by assumption))]
              · rw [va_up_ne _ _ hjp, va_up_ne _ _ hjp]
                exact hp j (by omega)
      · -- a number
        have hn0 : (0 : Int32) ≤ x := Int32.not_lt.mp hc
        have h10 : (-10 : Int32) ≤ x := le_tr (by decide) hn0
        obtain ⟨hp1, -⟩ := o1 h10
        rw [if_pos h10] at ih
        repeat' (first
          | refine T_sipush (v := (nI 156)) (pc1 := 3) (pc := 0) k_M_worked_0 rfl (by decide) ?_
          | refine T_bipush (v := (nI 100)) (pc1 := 5) (pc := 3) k_M_worked_3 rfl (by decide) ?_
          | refine T_iload_n (pc1 := 6) (pc := 5) k_M_worked_5 rfl rfl ?_
          | with_reducible refine T_imulN (pc1 := 7) (pc := 6) k_M_worked_6 (by decide) ?_
          | refine T_imul (pc1 := 7) (pc := 6) k_M_worked_6 rfl ?_
          | with_reducible refine T_iaddN (pc1 := 8) (pc := 7) k_M_worked_7 (by decide) ?_
          | refine T_iadd (pc1 := 8) (pc := 7) k_M_worked_7 rfl ?_
          | refine T_istore_n (pc1 := 9) (pc := 8) k_M_worked_8 rfl (Nat.le_of_ble_eq_true rfl) ?_
          | refine T_iconst (v := (nI 0)) (pc1 := 10) (pc := 9) k_M_worked_9 rfl (by decide) ?_
          | refine T_istore_n (pc1 := 11) (pc := 10) k_M_worked_10 rfl (Nat.le_of_ble_eq_true rfl) ?_
          | refine T_iconst (v := (nI 0)) (pc1 := 12) (pc := 11) k_M_worked_11 rfl (by decide) ?_
          | refine T_istore (pc1 := 14) (pc := 12) k_M_worked_12 rfl (Nat.le_of_ble_eq_true rfl) ?_
          | refine T_aload_n (pc1 := 17) (pc := 16) k_M_worked_16 rfl rfl ?_
          | refine T_aload_nN (pc1 := 17) (pc := 16) k_M_worked_16 rfl rfl ?_
          | refine T_getR (pc1 := 20) (pc := 17) k_M_worked_17 rfl f_M_9 rfl (by first | exact ga G (by decide) rfl | assumption) (by first | exact gr G (by decide) rfl | assumption) ?_
          | refine T_iload_n (pc1 := 21) (pc := 20) k_M_worked_20 rfl rfl ?_
          | refine T_iconst (v := (nI 2)) (pc1 := 22) (pc := 21) k_M_worked_21 rfl (by decide) ?_
          | with_reducible refine T_iaddN (pc1 := 23) (pc := 22) k_M_worked_22 (by decide) ?_
          | refine T_iadd (pc1 := 23) (pc := 22) k_M_worked_22 rfl ?_
          | refine T_ialdN (pc1 := 24) (pc := 23) k_M_worked_23 rfl (by first | exact ga G (by decide) rfl | assumption) (by omega) (by omega) (by first | assumption | (simp (disch := omega) only [pI_eq, pI_row, pI_col, va_up_self, va_up_ne, ne_eq, not_false_eq_true] <;> rfl) | rfl) ?_
          | refine T_iald (pc1 := 24) (pc := 23) k_M_worked_23 rfl (by first | exact ga G (by decide) rfl | assumption) (by assumption) ?_
          | (with_reducible refine T_icmp_geN (tgt := 158) (pc1 := 27) (pc := 24) k_M_worked_24 (by decide) (by decide) (by omega) (by omega) (fun hc => ?_) (fun hc => ?_) <;> first | (exfalso; omega) | skip)
          | refine T_icmp_ge_t (tgt := 158) (pc := 24) k_M_worked_24 rfl (by decide) ?_
          | refine T_icmp_ge_f (tgt := 158) (pc1 := 27) (pc := 24) k_M_worked_24 rfl rfl (by decide) ?_
          | refine T_icmp_ge (tgt := 158) (pc1 := 27) (pc := 24) k_M_worked_24 rfl rfl (fun hc => ?_) (fun hc => ?_)
          | refine T_aload_n (pc1 := 28) (pc := 27) k_M_worked_27 rfl rfl ?_
          | refine T_aload_nN (pc1 := 28) (pc := 27) k_M_worked_27 rfl rfl ?_
          | refine T_getR (pc1 := 31) (pc := 28) k_M_worked_28 rfl f_M_9 rfl (by first | exact ga G (by decide) rfl | assumption) (by first | exact gr G (by decide) rfl | assumption) ?_
          | refine T_iload_n (pc1 := 32) (pc := 31) k_M_worked_31 rfl rfl ?_
          | refine T_iconst (v := (nI 3)) (pc1 := 33) (pc := 32) k_M_worked_32 rfl (by decide) ?_
          | with_reducible refine T_iaddN (pc1 := 34) (pc := 33) k_M_worked_33 (by decide) ?_
          | refine T_iadd (pc1 := 34) (pc := 33) k_M_worked_33 rfl ?_
          | refine T_iload (pc1 := 36) (pc := 34) k_M_worked_34 rfl rfl ?_
          | with_reducible refine T_iaddN (pc1 := 37) (pc := 36) k_M_worked_36 (by decide) ?_
          | refine T_iadd (pc1 := 37) (pc := 36) k_M_worked_36 rfl ?_
          | refine T_ialdN (pc1 := 38) (pc := 37) k_M_worked_37 rfl (by first | exact ga G (by decide) rfl | assumption) (by omega) (by omega) (by first | assumption | (simp (disch := omega) only [pI_eq, pI_row, pI_col, va_up_self, va_up_ne, ne_eq, not_false_eq_true] <;> rfl) | rfl) ?_
          | refine T_iald (pc1 := 38) (pc := 37) k_M_worked_37 rfl (by first | exact ga G (by decide) rfl | assumption) (by assumption) ?_
          | refine T_istore (pc1 := 40) (pc := 38) k_M_worked_38 rfl (Nat.le_of_ble_eq_true rfl) ?_
          | refine T_iload (pc1 := 42) (pc := 40) k_M_worked_40 rfl rfl ?_
          | (with_reducible refine T_if_ltN (tgt := 59) (pc1 := 45) (pc := 42) k_M_worked_42 (by decide) (by decide) (by omega) ?_ <;> first | (exfalso; omega) | skip)
          | refine T_if_lt_t (tgt := 59) (pc := 42) k_M_worked_42 rfl (by decide) ?_
          | refine T_if_lt_f (tgt := 59) (pc1 := 45) (pc := 42) k_M_worked_42 rfl rfl (by decide) ?_
          | refine T_if_lt (tgt := 59) (pc1 := 45) (pc := 42) k_M_worked_42 rfl rfl (fun hc => ?_) (fun hc => ?_)
          | refine T_aload_n (pc1 := 46) (pc := 45) k_M_worked_45 rfl rfl ?_
          | refine T_aload_nN (pc1 := 46) (pc := 45) k_M_worked_45 rfl rfl ?_
          | refine T_getR (pc1 := 49) (pc := 46) k_M_worked_46 rfl f_M_58 rfl (by first | exact ga G (by decide) rfl | assumption) (by first | exact gr G (by decide) rfl | assumption) ?_
          | refine T_iload_n (pc1 := 50) (pc := 49) k_M_worked_49 rfl rfl ?_
          | refine T_iload (pc1 := 52) (pc := 50) k_M_worked_50 rfl rfl ?_
          | refine T_iastN (pc1 := 53) (pc := 52) k_M_worked_52 rfl (by first | exact ga G (by decide) rfl | assumption) (by omega) (by omega) ?_
          | refine T_iincN (b := 1) (pc1 := 56) (pc := 53) k_M_worked_53 rfl rfl (by decide) ?_
          | refine T_iinc (v := (nI 1)) (pc1 := 56) (pc := 53) k_M_worked_53 rfl rfl (by decide) ?_
          | refine T_goto (tgt := 152) (pc := 56) k_M_worked_56 rfl ?_
          | refine T_iload (pc1 := 61) (pc := 59) k_M_worked_59 rfl rfl ?_
          | refine T_bipush (v := (-10)) (pc1 := 63) (pc := 61) k_M_worked_61 rfl (by decide) ?_
          | (with_reducible refine T_icmp_ltN (tgt := 88) (pc1 := 66) (pc := 63) k_M_worked_63 (by decide) (by decide) (by omega) (by omega) (fun hc => ?_) (fun hc => ?_) <;> first | (exfalso; omega) | skip)
          | refine T_icmp_lt_t (tgt := 88) (pc := 63) k_M_worked_63 rfl (by decide) ?_
          | refine T_icmp_lt_f (tgt := 88) (pc1 := 66) (pc := 63) k_M_worked_63 rfl rfl (by decide) ?_
          | refine T_icmp_lt (tgt := 88) (pc1 := 66) (pc := 63) k_M_worked_63 rfl rfl (fun hc => ?_) (fun hc => ?_)
          | refine T_aload_n (pc1 := 67) (pc := 66) k_M_worked_66 rfl rfl ?_
          | refine T_aload_nN (pc1 := 67) (pc := 66) k_M_worked_66 rfl rfl ?_
          | refine T_getR (pc1 := 70) (pc := 67) k_M_worked_67 rfl f_M_58 rfl (by first | exact ga G (by decide) rfl | assumption) (by first | exact gr G (by decide) rfl | assumption) ?_
          | refine T_iload_n (pc1 := 71) (pc := 70) k_M_worked_70 rfl rfl ?_
          | refine T_aload_n (pc1 := 72) (pc := 71) k_M_worked_71 rfl rfl ?_
          | refine T_aload_nN (pc1 := 72) (pc := 71) k_M_worked_71 rfl rfl ?_
          | refine T_getR (pc1 := 75) (pc := 72) k_M_worked_72 rfl f_M_55 rfl (by first | exact ga G (by decide) rfl | assumption) (by first | exact gr G (by decide) rfl | assumption) ?_
          | refine T_iload (pc1 := 77) (pc := 75) k_M_worked_75 rfl rfl ?_
          | refine T_bipush (v := (-10)) (pc1 := 79) (pc := 77) k_M_worked_77 rfl (by decide) ?_
          | with_reducible refine T_isubN (pc1 := 80) (pc := 79) k_M_worked_79 (by decide) (by omega) ?_
          | refine T_isub (pc1 := 80) (pc := 79) k_M_worked_79 rfl ?_
          | refine T_ialdN (pc1 := 81) (pc := 80) k_M_worked_80 rfl (by first | exact ga G (by decide) rfl | assumption) (by omega) (by omega) (by first | assumption | (simp (disch := omega) only [pI_eq, pI_row, pI_col, va_up_self, va_up_ne, ne_eq, not_false_eq_true] <;> rfl) | rfl) ?_
          | refine T_iald (pc1 := 81) (pc := 80) k_M_worked_80 rfl (by first | exact ga G (by decide) rfl | assumption) (by assumption) ?_
          | refine T_iastN (pc1 := 82) (pc := 81) k_M_worked_81 rfl (by first | exact ga G (by decide) rfl | assumption) (by omega) (by omega) ?_
          | refine T_iincN (b := 1) (pc1 := 85) (pc := 82) k_M_worked_82 rfl rfl (by decide) ?_
          | refine T_iinc (v := (nI 1)) (pc1 := 85) (pc := 82) k_M_worked_82 rfl rfl (by decide) ?_
          | refine T_goto (tgt := 152) (pc := 85) k_M_worked_85 rfl ?_
          | refine T_iload (pc1 := 90) (pc := 88) k_M_worked_88 rfl rfl ?_
          | refine T_bipush (v := (-29)) (pc1 := 92) (pc := 90) k_M_worked_90 rfl (by decide) ?_
          | (with_reducible refine T_icmp_neN (tgt := 122) (pc1 := 95) (pc := 92) k_M_worked_92 (by decide) (by decide) (by omega) (by omega) (fun hc => ?_) (fun hc => ?_) <;> first | (exfalso; omega) | skip)
          | refine T_icmp_ne_t (tgt := 122) (pc := 92) k_M_worked_92 rfl (by decide) ?_
          | refine T_icmp_ne_f (tgt := 122) (pc1 := 95) (pc := 92) k_M_worked_92 rfl rfl (by decide) ?_
          | refine T_icmp_ne (tgt := 122) (pc1 := 95) (pc := 92) k_M_worked_92 rfl rfl (fun hc => ?_) (fun hc => ?_)
          | refine T_aload_n (pc1 := 96) (pc := 95) k_M_worked_95 rfl rfl ?_
          | refine T_aload_nN (pc1 := 96) (pc := 95) k_M_worked_95 rfl rfl ?_
          | refine T_getR (pc1 := 99) (pc := 96) k_M_worked_96 rfl f_M_58 rfl (by first | exact ga G (by decide) rfl | assumption) (by first | exact gr G (by decide) rfl | assumption) ?_
          | refine T_iload_n (pc1 := 100) (pc := 99) k_M_worked_99 rfl rfl ?_
          | refine T_iconst (v := (nI 1)) (pc1 := 101) (pc := 100) k_M_worked_100 rfl (by decide) ?_
          | with_reducible refine T_isubN (pc1 := 102) (pc := 101) k_M_worked_101 (by decide) (by omega) ?_
          | refine T_isub (pc1 := 102) (pc := 101) k_M_worked_101 rfl ?_
          | refine T_aload_n (pc1 := 103) (pc := 102) k_M_worked_102 rfl rfl ?_
          | refine T_aload_nN (pc1 := 103) (pc := 102) k_M_worked_102 rfl rfl ?_
          | refine T_getR (pc1 := 106) (pc := 103) k_M_worked_103 rfl f_M_58 rfl (by first | exact ga G (by decide) rfl | assumption) (by first | exact gr G (by decide) rfl | assumption) ?_
          | refine T_iload_n (pc1 := 107) (pc := 106) k_M_worked_106 rfl rfl ?_
          | refine T_iconst (v := (nI 1)) (pc1 := 108) (pc := 107) k_M_worked_107 rfl (by decide) ?_
          | with_reducible refine T_isubN (pc1 := 109) (pc := 108) k_M_worked_108 (by decide) (by omega) ?_
          | refine T_isub (pc1 := 109) (pc := 108) k_M_worked_108 rfl ?_
          | refine T_ialdN (pc1 := 110) (pc := 109) k_M_worked_109 rfl (by first | exact ga G (by decide) rfl | assumption) (by omega) (by omega) (by first | assumption | (simp (disch := omega) only [pI_eq, pI_row, pI_col, va_up_self, va_up_ne, ne_eq, not_false_eq_true] <;> rfl) | rfl) ?_
          | refine T_iald (pc1 := 110) (pc := 109) k_M_worked_109 rfl (by first | exact ga G (by decide) rfl | assumption) (by assumption) ?_
          | (with_reducible refine T_if_neN (tgt := 117) (pc1 := 113) (pc := 110) k_M_worked_110 (by decide) (by decide) (by omega) (fun hc => ?_) (fun hc => ?_) <;> first | (exfalso; omega) | skip)
          | refine T_if_ne_t (tgt := 117) (pc := 110) k_M_worked_110 rfl (by decide) ?_
          | refine T_if_ne_f (tgt := 117) (pc1 := 113) (pc := 110) k_M_worked_110 rfl rfl (by decide) ?_
          | refine T_if_ne (tgt := 117) (pc1 := 113) (pc := 110) k_M_worked_110 rfl rfl (fun hc => ?_) (fun hc => ?_)
          | refine T_iconst (v := (nI 1)) (pc1 := 114) (pc := 113) k_M_worked_113 rfl (by decide) ?_
          | refine T_goto (tgt := 118) (pc := 114) k_M_worked_114 rfl ?_
          | refine T_iconst (v := (nI 0)) (pc1 := 118) (pc := 117) k_M_worked_117 rfl (by decide) ?_
          | refine T_iastN (pc1 := 119) (pc := 118) k_M_worked_118 rfl (by first | exact ga G (by decide) rfl | assumption) (by omega) (by omega) ?_
          | refine T_goto (tgt := 152) (pc := 119) k_M_worked_119 rfl ?_
          | refine T_iinc (v := (-1)) (pc1 := 125) (pc := 122) k_M_worked_122 rfl rfl (by decide) ?_
          | refine T_aload_n (pc1 := 126) (pc := 125) k_M_worked_125 rfl rfl ?_
          | refine T_aload_nN (pc1 := 126) (pc := 125) k_M_worked_125 rfl rfl ?_
          | refine T_getR (pc1 := 129) (pc := 126) k_M_worked_126 rfl f_M_58 rfl (by first | exact ga G (by decide) rfl | assumption) (by first | exact gr G (by decide) rfl | assumption) ?_
          | refine T_iload_n (pc1 := 130) (pc := 129) k_M_worked_129 rfl rfl ?_
          | refine T_iconst (v := (nI 1)) (pc1 := 131) (pc := 130) k_M_worked_130 rfl (by decide) ?_
          | with_reducible refine T_isubN (pc1 := 132) (pc := 131) k_M_worked_131 (by decide) (by omega) ?_
          | refine T_isub (pc1 := 132) (pc := 131) k_M_worked_131 rfl ?_
          | refine T_iload (pc1 := 134) (pc := 132) k_M_worked_132 rfl rfl ?_
          | refine T_aload_n (pc1 := 135) (pc := 134) k_M_worked_134 rfl rfl ?_
          | refine T_aload_nN (pc1 := 135) (pc := 134) k_M_worked_134 rfl rfl ?_
          | refine T_getR (pc1 := 138) (pc := 135) k_M_worked_135 rfl f_M_58 rfl (by first | exact ga G (by decide) rfl | assumption) (by first | exact gr G (by decide) rfl | assumption) ?_
          | refine T_iload_n (pc1 := 139) (pc := 138) k_M_worked_138 rfl rfl ?_
          | refine T_iconst (v := (nI 1)) (pc1 := 140) (pc := 139) k_M_worked_139 rfl (by decide) ?_
          | with_reducible refine T_isubN (pc1 := 141) (pc := 140) k_M_worked_140 (by decide) (by omega) ?_
          | refine T_isub (pc1 := 141) (pc := 140) k_M_worked_140 rfl ?_
          | refine T_ialdN (pc1 := 142) (pc := 141) k_M_worked_141 rfl (by first | exact ga G (by decide) rfl | assumption) (by omega) (by omega) (by first | assumption | (simp (disch := omega) only [pI_eq, pI_row, pI_col, va_up_self, va_up_ne, ne_eq, not_false_eq_true] <;> rfl) | rfl) ?_
          | refine T_iald (pc1 := 142) (pc := 141) k_M_worked_141 rfl (by first | exact ga G (by decide) rfl | assumption) (by assumption) ?_
          | refine T_aload_n (pc1 := 143) (pc := 142) k_M_worked_142 rfl rfl ?_
          | refine T_aload_nN (pc1 := 143) (pc := 142) k_M_worked_142 rfl rfl ?_
          | refine T_getR (pc1 := 146) (pc := 143) k_M_worked_143 rfl f_M_58 rfl (by first | exact ga G (by decide) rfl | assumption) (by first | exact gr G (by decide) rfl | assumption) ?_
          | refine T_iload_n (pc1 := 147) (pc := 146) k_M_worked_146 rfl rfl ?_
          | refine T_ialdN (pc1 := 148) (pc := 147) k_M_worked_147 rfl (by first | exact ga G (by decide) rfl | assumption) (by omega) (by omega) (by first | assumption | (simp (disch := omega) only [pI_eq, pI_row, pI_col, va_up_self, va_up_ne, ne_eq, not_false_eq_true] <;> rfl) | rfl) ?_
          | refine T_iald (pc1 := 148) (pc := 147) k_M_worked_147 rfl (by first | exact ga G (by decide) rfl | assumption) (by assumption) ?_
          | (refine T_cS (As := [_, _, _]) (d1 := 1) (pc1 := 151) (pc := 148) k_M_worked_148 rfl (by decide) (Nat.le_of_ble_eq_true rfl) rfl o_M_done l_M_293 rfl (c_M_done (fun r hr => ?_)) <;> try dsimp only [psh])
          | refine T_iastN (pc1 := 152) (pc := 151) k_M_worked_151 rfl (by first | exact ga G (by decide) rfl | assumption) (by omega) (by omega) ?_
          | refine T_iincN (b := 1) (pc1 := 155) (pc := 152) k_M_worked_152 rfl rfl (by decide) ?_
          | refine T_iinc (v := (nI 1)) (pc1 := 155) (pc := 152) k_M_worked_152 rfl rfl (by decide) ?_
          | refine T_goto (tgt := 14) (pc := 155) k_M_worked_155 rfl ?_
          | refine T_aload_n (pc1 := 159) (pc := 158) k_M_worked_158 rfl rfl ?_
          | refine T_aload_nN (pc1 := 159) (pc := 158) k_M_worked_158 rfl rfl ?_
          | refine T_getR (pc1 := 162) (pc := 159) k_M_worked_159 rfl f_M_58 rfl (by first | exact ga G (by decide) rfl | assumption) (by first | exact gr G (by decide) rfl | assumption) ?_
          | refine T_iconst (v := (nI 0)) (pc1 := 163) (pc := 162) k_M_worked_162 rfl (by decide) ?_
          | refine T_ialdN (pc1 := 164) (pc := 163) k_M_worked_163 rfl (by first | exact ga G (by decide) rfl | assumption) (by omega) (by omega) (by first | assumption | (simp (disch := omega) only [pI_eq, pI_row, pI_col, va_up_self, va_up_ne, ne_eq, not_false_eq_true] <;> rfl) | rfl) ?_
          | refine T_iald (pc1 := 164) (pc := 163) k_M_worked_163 rfl (by first | exact ga G (by decide) rfl | assumption) (by assumption) ?_
          | refine T_retI (pc := 164) k_M_worked_164 rfl (by first | rfl | decide | assumption) ?_)
        refine ih _ _ (by omega) (eqx_pI hJ _ (by decide)) (fun j hj => ?_)
        rw [pl, hdd, hx, if_pos hn0, pI_self]
        by_cases hjp : j = p
        · subst hjp
          rw [va_up_self, va_up_self]
        · rw [va_up_ne _ _ hjp, va_up_ne _ _ hjp]
          exact hp j (by omega)
  repeat' (first
    | refine T_sipush (v := (nI 156)) (pc1 := 3) (pc := 0) k_M_worked_0 rfl (by decide) ?_
    | refine T_bipush (v := (nI 100)) (pc1 := 5) (pc := 3) k_M_worked_3 rfl (by decide) ?_
    | refine T_iload_n (pc1 := 6) (pc := 5) k_M_worked_5 rfl rfl ?_
    | with_reducible refine T_imulN (pc1 := 7) (pc := 6) k_M_worked_6 (by decide) ?_
    | refine T_imul (pc1 := 7) (pc := 6) k_M_worked_6 rfl ?_
    | with_reducible refine T_iaddN (pc1 := 8) (pc := 7) k_M_worked_7 (by decide) ?_
    | refine T_iadd (pc1 := 8) (pc := 7) k_M_worked_7 rfl ?_
    | refine T_istore_n (pc1 := 9) (pc := 8) k_M_worked_8 rfl (Nat.le_of_ble_eq_true rfl) ?_
    | refine T_iconst (v := (nI 0)) (pc1 := 10) (pc := 9) k_M_worked_9 rfl (by decide) ?_
    | refine T_istore_n (pc1 := 11) (pc := 10) k_M_worked_10 rfl (Nat.le_of_ble_eq_true rfl) ?_
    | refine T_iconst (v := (nI 0)) (pc1 := 12) (pc := 11) k_M_worked_11 rfl (by decide) ?_
    | refine T_istore (pc1 := 14) (pc := 12) k_M_worked_12 rfl (Nat.le_of_ble_eq_true rfl) ?_
    | refine T_aload_n (pc1 := 17) (pc := 16) k_M_worked_16 rfl rfl ?_
    | refine T_aload_nN (pc1 := 17) (pc := 16) k_M_worked_16 rfl rfl ?_
    | refine T_getR (pc1 := 20) (pc := 17) k_M_worked_17 rfl f_M_9 rfl (by first | exact ga G (by decide) rfl | assumption) (by first | exact gr G (by decide) rfl | assumption) ?_
    | refine T_iload_n (pc1 := 21) (pc := 20) k_M_worked_20 rfl rfl ?_
    | refine T_iconst (v := (nI 2)) (pc1 := 22) (pc := 21) k_M_worked_21 rfl (by decide) ?_
    | with_reducible refine T_iaddN (pc1 := 23) (pc := 22) k_M_worked_22 (by decide) ?_
    | refine T_iadd (pc1 := 23) (pc := 22) k_M_worked_22 rfl ?_
    | refine T_ialdN (pc1 := 24) (pc := 23) k_M_worked_23 rfl (by first | exact ga G (by decide) rfl | assumption) (by omega) (by omega) (by first | assumption | (simp (disch := omega) only [pI_eq, pI_row, pI_col, va_up_self, va_up_ne, ne_eq, not_false_eq_true] <;> rfl) | rfl) ?_
    | refine T_iald (pc1 := 24) (pc := 23) k_M_worked_23 rfl (by first | exact ga G (by decide) rfl | assumption) (by assumption) ?_
    | (with_reducible refine T_icmp_geN (tgt := 158) (pc1 := 27) (pc := 24) k_M_worked_24 (by decide) (by decide) (by omega) (by omega) (fun hc => ?_) (fun hc => ?_) <;> first | (exfalso; omega) | skip)
    | refine T_icmp_ge_t (tgt := 158) (pc := 24) k_M_worked_24 rfl (by decide) ?_
    | refine T_icmp_ge_f (tgt := 158) (pc1 := 27) (pc := 24) k_M_worked_24 rfl rfl (by decide) ?_
    | refine T_icmp_ge (tgt := 158) (pc1 := 27) (pc := 24) k_M_worked_24 rfl rfl (fun hc => ?_) (fun hc => ?_)
    | refine T_aload_n (pc1 := 28) (pc := 27) k_M_worked_27 rfl rfl ?_
    | refine T_aload_nN (pc1 := 28) (pc := 27) k_M_worked_27 rfl rfl ?_
    | refine T_getR (pc1 := 31) (pc := 28) k_M_worked_28 rfl f_M_9 rfl (by first | exact ga G (by decide) rfl | assumption) (by first | exact gr G (by decide) rfl | assumption) ?_
    | refine T_iload_n (pc1 := 32) (pc := 31) k_M_worked_31 rfl rfl ?_
    | refine T_iconst (v := (nI 3)) (pc1 := 33) (pc := 32) k_M_worked_32 rfl (by decide) ?_
    | with_reducible refine T_iaddN (pc1 := 34) (pc := 33) k_M_worked_33 (by decide) ?_
    | refine T_iadd (pc1 := 34) (pc := 33) k_M_worked_33 rfl ?_
    | refine T_iload (pc1 := 36) (pc := 34) k_M_worked_34 rfl rfl ?_
    | with_reducible refine T_iaddN (pc1 := 37) (pc := 36) k_M_worked_36 (by decide) ?_
    | refine T_iadd (pc1 := 37) (pc := 36) k_M_worked_36 rfl ?_
    | refine T_ialdN (pc1 := 38) (pc := 37) k_M_worked_37 rfl (by first | exact ga G (by decide) rfl | assumption) (by omega) (by omega) (by first | assumption | (simp (disch := omega) only [pI_eq, pI_row, pI_col, va_up_self, va_up_ne, ne_eq, not_false_eq_true] <;> rfl) | rfl) ?_
    | refine T_iald (pc1 := 38) (pc := 37) k_M_worked_37 rfl (by first | exact ga G (by decide) rfl | assumption) (by assumption) ?_
    | refine T_istore (pc1 := 40) (pc := 38) k_M_worked_38 rfl (Nat.le_of_ble_eq_true rfl) ?_
    | refine T_iload (pc1 := 42) (pc := 40) k_M_worked_40 rfl rfl ?_
    | (with_reducible refine T_if_ltN (tgt := 59) (pc1 := 45) (pc := 42) k_M_worked_42 (by decide) (by decide) (by omega) ?_ <;> first | (exfalso; omega) | skip)
    | refine T_if_lt_t (tgt := 59) (pc := 42) k_M_worked_42 rfl (by decide) ?_
    | refine T_if_lt_f (tgt := 59) (pc1 := 45) (pc := 42) k_M_worked_42 rfl rfl (by decide) ?_
    | refine T_if_lt (tgt := 59) (pc1 := 45) (pc := 42) k_M_worked_42 rfl rfl (fun hc => ?_) (fun hc => ?_)
    | refine T_aload_n (pc1 := 46) (pc := 45) k_M_worked_45 rfl rfl ?_
    | refine T_aload_nN (pc1 := 46) (pc := 45) k_M_worked_45 rfl rfl ?_
    | refine T_getR (pc1 := 49) (pc := 46) k_M_worked_46 rfl f_M_58 rfl (by first | exact ga G (by decide) rfl | assumption) (by first | exact gr G (by decide) rfl | assumption) ?_
    | refine T_iload_n (pc1 := 50) (pc := 49) k_M_worked_49 rfl rfl ?_
    | refine T_iload (pc1 := 52) (pc := 50) k_M_worked_50 rfl rfl ?_
    | refine T_iastN (pc1 := 53) (pc := 52) k_M_worked_52 rfl (by first | exact ga G (by decide) rfl | assumption) (by omega) (by omega) ?_
    | refine T_iincN (b := 1) (pc1 := 56) (pc := 53) k_M_worked_53 rfl rfl (by decide) ?_
    | refine T_iinc (v := (nI 1)) (pc1 := 56) (pc := 53) k_M_worked_53 rfl rfl (by decide) ?_
    | refine T_goto (tgt := 152) (pc := 56) k_M_worked_56 rfl ?_
    | refine T_iload (pc1 := 61) (pc := 59) k_M_worked_59 rfl rfl ?_
    | refine T_bipush (v := (-10)) (pc1 := 63) (pc := 61) k_M_worked_61 rfl (by decide) ?_
    | (with_reducible refine T_icmp_ltN (tgt := 88) (pc1 := 66) (pc := 63) k_M_worked_63 (by decide) (by decide) (by omega) (by omega) (fun hc => ?_) (fun hc => ?_) <;> first | (exfalso; omega) | skip)
    | refine T_icmp_lt_t (tgt := 88) (pc := 63) k_M_worked_63 rfl (by decide) ?_
    | refine T_icmp_lt_f (tgt := 88) (pc1 := 66) (pc := 63) k_M_worked_63 rfl rfl (by decide) ?_
    | refine T_icmp_lt (tgt := 88) (pc1 := 66) (pc := 63) k_M_worked_63 rfl rfl (fun hc => ?_) (fun hc => ?_)
    | refine T_aload_n (pc1 := 67) (pc := 66) k_M_worked_66 rfl rfl ?_
    | refine T_aload_nN (pc1 := 67) (pc := 66) k_M_worked_66 rfl rfl ?_
    | refine T_getR (pc1 := 70) (pc := 67) k_M_worked_67 rfl f_M_58 rfl (by first | exact ga G (by decide) rfl | assumption) (by first | exact gr G (by decide) rfl | assumption) ?_
    | refine T_iload_n (pc1 := 71) (pc := 70) k_M_worked_70 rfl rfl ?_
    | refine T_aload_n (pc1 := 72) (pc := 71) k_M_worked_71 rfl rfl ?_
    | refine T_aload_nN (pc1 := 72) (pc := 71) k_M_worked_71 rfl rfl ?_
    | refine T_getR (pc1 := 75) (pc := 72) k_M_worked_72 rfl f_M_55 rfl (by first | exact ga G (by decide) rfl | assumption) (by first | exact gr G (by decide) rfl | assumption) ?_
    | refine T_iload (pc1 := 77) (pc := 75) k_M_worked_75 rfl rfl ?_
    | refine T_bipush (v := (-10)) (pc1 := 79) (pc := 77) k_M_worked_77 rfl (by decide) ?_
    | with_reducible refine T_isubN (pc1 := 80) (pc := 79) k_M_worked_79 (by decide) (by omega) ?_
    | refine T_isub (pc1 := 80) (pc := 79) k_M_worked_79 rfl ?_
    | refine T_ialdN (pc1 := 81) (pc := 80) k_M_worked_80 rfl (by first | exact ga G (by decide) rfl | assumption) (by omega) (by omega) (by first | assumption | (simp (disch := omega) only [pI_eq, pI_row, pI_col, va_up_self, va_up_ne, ne_eq, not_false_eq_true] <;> rfl) | rfl) ?_
    | refine T_iald (pc1 := 81) (pc := 80) k_M_worked_80 rfl (by first | exact ga G (by decide) rfl | assumption) (by assumption) ?_
    | refine T_iastN (pc1 := 82) (pc := 81) k_M_worked_81 rfl (by first | exact ga G (by decide) rfl | assumption) (by omega) (by omega) ?_
    | refine T_iincN (b := 1) (pc1 := 85) (pc := 82) k_M_worked_82 rfl rfl (by decide) ?_
    | refine T_iinc (v := (nI 1)) (pc1 := 85) (pc := 82) k_M_worked_82 rfl rfl (by decide) ?_
    | refine T_goto (tgt := 152) (pc := 85) k_M_worked_85 rfl ?_
    | refine T_iload (pc1 := 90) (pc := 88) k_M_worked_88 rfl rfl ?_
    | refine T_bipush (v := (-29)) (pc1 := 92) (pc := 90) k_M_worked_90 rfl (by decide) ?_
    | (with_reducible refine T_icmp_neN (tgt := 122) (pc1 := 95) (pc := 92) k_M_worked_92 (by decide) (by decide) (by omega) (by omega) (fun hc => ?_) (fun hc => ?_) <;> first | (exfalso; omega) | skip)
    | refine T_icmp_ne_t (tgt := 122) (pc := 92) k_M_worked_92 rfl (by decide) ?_
    | refine T_icmp_ne_f (tgt := 122) (pc1 := 95) (pc := 92) k_M_worked_92 rfl rfl (by decide) ?_
    | refine T_icmp_ne (tgt := 122) (pc1 := 95) (pc := 92) k_M_worked_92 rfl rfl (fun hc => ?_) (fun hc => ?_)
    | refine T_aload_n (pc1 := 96) (pc := 95) k_M_worked_95 rfl rfl ?_
    | refine T_aload_nN (pc1 := 96) (pc := 95) k_M_worked_95 rfl rfl ?_
    | refine T_getR (pc1 := 99) (pc := 96) k_M_worked_96 rfl f_M_58 rfl (by first | exact ga G (by decide) rfl | assumption) (by first | exact gr G (by decide) rfl | assumption) ?_
    | refine T_iload_n (pc1 := 100) (pc := 99) k_M_worked_99 rfl rfl ?_
    | refine T_iconst (v := (nI 1)) (pc1 := 101) (pc := 100) k_M_worked_100 rfl (by decide) ?_
    | with_reducible refine T_isubN (pc1 := 102) (pc := 101) k_M_worked_101 (by decide) (by omega) ?_
    | refine T_isub (pc1 := 102) (pc := 101) k_M_worked_101 rfl ?_
    | refine T_aload_n (pc1 := 103) (pc := 102) k_M_worked_102 rfl rfl ?_
    | refine T_aload_nN (pc1 := 103) (pc := 102) k_M_worked_102 rfl rfl ?_
    | refine T_getR (pc1 := 106) (pc := 103) k_M_worked_103 rfl f_M_58 rfl (by first | exact ga G (by decide) rfl | assumption) (by first | exact gr G (by decide) rfl | assumption) ?_
    | refine T_iload_n (pc1 := 107) (pc := 106) k_M_worked_106 rfl rfl ?_
    | refine T_iconst (v := (nI 1)) (pc1 := 108) (pc := 107) k_M_worked_107 rfl (by decide) ?_
    | with_reducible refine T_isubN (pc1 := 109) (pc := 108) k_M_worked_108 (by decide) (by omega) ?_
    | refine T_isub (pc1 := 109) (pc := 108) k_M_worked_108 rfl ?_
    | refine T_ialdN (pc1 := 110) (pc := 109) k_M_worked_109 rfl (by first | exact ga G (by decide) rfl | assumption) (by omega) (by omega) (by first | assumption | (simp (disch := omega) only [pI_eq, pI_row, pI_col, va_up_self, va_up_ne, ne_eq, not_false_eq_true] <;> rfl) | rfl) ?_
    | refine T_iald (pc1 := 110) (pc := 109) k_M_worked_109 rfl (by first | exact ga G (by decide) rfl | assumption) (by assumption) ?_
    | (with_reducible refine T_if_neN (tgt := 117) (pc1 := 113) (pc := 110) k_M_worked_110 (by decide) (by decide) (by omega) (fun hc => ?_) (fun hc => ?_) <;> first | (exfalso; omega) | skip)
    | refine T_if_ne_t (tgt := 117) (pc := 110) k_M_worked_110 rfl (by decide) ?_
    | refine T_if_ne_f (tgt := 117) (pc1 := 113) (pc := 110) k_M_worked_110 rfl rfl (by decide) ?_
    | refine T_if_ne (tgt := 117) (pc1 := 113) (pc := 110) k_M_worked_110 rfl rfl (fun hc => ?_) (fun hc => ?_)
    | refine T_iconst (v := (nI 1)) (pc1 := 114) (pc := 113) k_M_worked_113 rfl (by decide) ?_
    | refine T_goto (tgt := 118) (pc := 114) k_M_worked_114 rfl ?_
    | refine T_iconst (v := (nI 0)) (pc1 := 118) (pc := 117) k_M_worked_117 rfl (by decide) ?_
    | refine T_iastN (pc1 := 119) (pc := 118) k_M_worked_118 rfl (by first | exact ga G (by decide) rfl | assumption) (by omega) (by omega) ?_
    | refine T_goto (tgt := 152) (pc := 119) k_M_worked_119 rfl ?_
    | refine T_iinc (v := (-1)) (pc1 := 125) (pc := 122) k_M_worked_122 rfl rfl (by decide) ?_
    | refine T_aload_n (pc1 := 126) (pc := 125) k_M_worked_125 rfl rfl ?_
    | refine T_aload_nN (pc1 := 126) (pc := 125) k_M_worked_125 rfl rfl ?_
    | refine T_getR (pc1 := 129) (pc := 126) k_M_worked_126 rfl f_M_58 rfl (by first | exact ga G (by decide) rfl | assumption) (by first | exact gr G (by decide) rfl | assumption) ?_
    | refine T_iload_n (pc1 := 130) (pc := 129) k_M_worked_129 rfl rfl ?_
    | refine T_iconst (v := (nI 1)) (pc1 := 131) (pc := 130) k_M_worked_130 rfl (by decide) ?_
    | with_reducible refine T_isubN (pc1 := 132) (pc := 131) k_M_worked_131 (by decide) (by omega) ?_
    | refine T_isub (pc1 := 132) (pc := 131) k_M_worked_131 rfl ?_
    | refine T_iload (pc1 := 134) (pc := 132) k_M_worked_132 rfl rfl ?_
    | refine T_aload_n (pc1 := 135) (pc := 134) k_M_worked_134 rfl rfl ?_
    | refine T_aload_nN (pc1 := 135) (pc := 134) k_M_worked_134 rfl rfl ?_
    | refine T_getR (pc1 := 138) (pc := 135) k_M_worked_135 rfl f_M_58 rfl (by first | exact ga G (by decide) rfl | assumption) (by first | exact gr G (by decide) rfl | assumption) ?_
    | refine T_iload_n (pc1 := 139) (pc := 138) k_M_worked_138 rfl rfl ?_
    | refine T_iconst (v := (nI 1)) (pc1 := 140) (pc := 139) k_M_worked_139 rfl (by decide) ?_
    | with_reducible refine T_isubN (pc1 := 141) (pc := 140) k_M_worked_140 (by decide) (by omega) ?_
    | refine T_isub (pc1 := 141) (pc := 140) k_M_worked_140 rfl ?_
    | refine T_ialdN (pc1 := 142) (pc := 141) k_M_worked_141 rfl (by first | exact ga G (by decide) rfl | assumption) (by omega) (by omega) (by first | assumption | (simp (disch := omega) only [pI_eq, pI_row, pI_col, va_up_self, va_up_ne, ne_eq, not_false_eq_true] <;> rfl) | rfl) ?_
    | refine T_iald (pc1 := 142) (pc := 141) k_M_worked_141 rfl (by first | exact ga G (by decide) rfl | assumption) (by assumption) ?_
    | refine T_aload_n (pc1 := 143) (pc := 142) k_M_worked_142 rfl rfl ?_
    | refine T_aload_nN (pc1 := 143) (pc := 142) k_M_worked_142 rfl rfl ?_
    | refine T_getR (pc1 := 146) (pc := 143) k_M_worked_143 rfl f_M_58 rfl (by first | exact ga G (by decide) rfl | assumption) (by first | exact gr G (by decide) rfl | assumption) ?_
    | refine T_iload_n (pc1 := 147) (pc := 146) k_M_worked_146 rfl rfl ?_
    | refine T_ialdN (pc1 := 148) (pc := 147) k_M_worked_147 rfl (by first | exact ga G (by decide) rfl | assumption) (by omega) (by omega) (by first | assumption | (simp (disch := omega) only [pI_eq, pI_row, pI_col, va_up_self, va_up_ne, ne_eq, not_false_eq_true] <;> rfl) | rfl) ?_
    | refine T_iald (pc1 := 148) (pc := 147) k_M_worked_147 rfl (by first | exact ga G (by decide) rfl | assumption) (by assumption) ?_
    | (refine T_cS (As := [_, _, _]) (d1 := 1) (pc1 := 151) (pc := 148) k_M_worked_148 rfl (by decide) (Nat.le_of_ble_eq_true rfl) rfl o_M_done l_M_293 rfl (c_M_done (fun r hr => ?_)) <;> try dsimp only [psh])
    | refine T_iastN (pc1 := 152) (pc := 151) k_M_worked_151 rfl (by first | exact ga G (by decide) rfl | assumption) (by omega) (by omega) ?_
    | refine T_iincN (b := 1) (pc1 := 155) (pc := 152) k_M_worked_152 rfl rfl (by decide) ?_
    | refine T_iinc (v := (nI 1)) (pc1 := 155) (pc := 152) k_M_worked_152 rfl rfl (by decide) ?_
    | refine T_goto (tgt := 14) (pc := 155) k_M_worked_155 rfl ?_
    | refine T_aload_n (pc1 := 159) (pc := 158) k_M_worked_158 rfl rfl ?_
    | refine T_aload_nN (pc1 := 159) (pc := 158) k_M_worked_158 rfl rfl ?_
    | refine T_getR (pc1 := 162) (pc := 159) k_M_worked_159 rfl f_M_58 rfl (by first | exact ga G (by decide) rfl | assumption) (by first | exact gr G (by decide) rfl | assumption) ?_
    | refine T_iconst (v := (nI 0)) (pc1 := 163) (pc := 162) k_M_worked_162 rfl (by decide) ?_
    | refine T_ialdN (pc1 := 164) (pc := 163) k_M_worked_163 rfl (by first | exact ga G (by decide) rfl | assumption) (by omega) (by omega) (by first | assumption | (simp (disch := omega) only [pI_eq, pI_row, pI_col, va_up_self, va_up_ne, ne_eq, not_false_eq_true] <;> rfl) | rfl) ?_
    | refine T_iald (pc1 := 164) (pc := 163) k_M_worked_163 rfl (by first | exact ga G (by decide) rfl | assumption) (by assumption) ?_
    | refine T_retI (pc := 164) k_M_worked_164 rfl (by first | rfl | decide | assumption) ?_)
  exact loop m 0 none I (by omega) eqx_rf (fun j hj => absurd hj (Nat.not_lt_zero _))
end M3
