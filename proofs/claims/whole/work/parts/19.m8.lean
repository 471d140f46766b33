/-! The model: the next bit, a walk, the best minutes. -/
section M8
variable {g : Geo} {I : IM} {K : Option Value → Geo → IM → Prop}
theorem c_M_thinksN {N : Row} {n tn b : Nat} (G : GeoOK g) (hN : I 102 = N) (ok : okL N n tn) (hb : b < n) (kk : ∀ J, eqx [112, 113] I J → K (some (.int (nI (thk N tn b)))) g J) : Cl 3 M_M_thinks [.ref 101, .int (nI b)] g I K := c_M_thinks G hN ok hb (fun J hJ => by rw [(thk_eq ok hb).1]; exact kk J hJ)
theorem c_M_takesN {N : Row} {n tn b : Nat} (G : GeoOK g) (hN : I 102 = N) (ok : okL N n tn) (hb : b < n) (kk : ∀ J, eqx [112, 113] I J → K (some (.int (nI (tkk N tn b)))) g J) : Cl 4 M_M_takes [.ref 101, .int (nI b)] g I K := c_M_takes G hN ok hb (fun J hJ => by rw [(tkk_eq ok hb).1]; exact kk J hJ)
theorem fbP_iff {e : Nat → Nat × Nat} {c D : Nf} {at0 b : Nat} : fbP e c D at0 b = true ↔ c b ≠ 0 ∧ (((e b).1 = at0 ∧ D (e b).2 + c b = D at0) ∨ ((e b).1 ≠ at0 ∧ (e b).2 = at0 ∧ D (e b).1 + c b = D at0)) := by
  unfold fbP
  simp [and_assoc]
theorem cst_le {N : Row} {n tn F b : Nat} (ok : okL N n tn) (hb : b < n) : cst N tn F b ≤ 1998 := by
  unfold cst
  have := (thk_eq ok hb).2.2
  split <;> omega
set_option maxRecDepth 100000 in
set_option maxHeartbeats 4000000 in
theorem c_M_firstBit {N : Row} {n tn F at0 to0 : Nat} (G : GeoOK g) (hN : I 102 = N) (ok : okL N n tn) (hF : F < 16384) (ha : at0 < 8) (ht : to0 < 8) (kk : ∀ J, eqx [105, 106, 112, 113] I J → K (some (.int (opt1 (nxt N n (cst N tn F) at0 to0)))) g J) : Cl 4 M_M_firstBit [.ref 101, .int (nI at0), .int (nI to0), .int (nI F)] g I K := by
  show Rl 4 M_M_firstBit 0 [some (.ref 101), some (.int (nI at0)), some (.int (nI to0)), some (.int (nI F)), none, none, none] [] g I K
  obtain ⟨h5, h14, -⟩ := id ok
  have he := okL_E ok
  have last : ∀ J, eqx [105, 106, 112, 113] I J → (∀ b, b < n → J 105 b = nI (cst N tn F b)) → (∀ v, v < 8 → J 106 v = nI (dst (ed N) (cst N tn F) n to0 v)) → ∀ o5 o6, Rl 4 M_M_firstBit 52 [some (.ref 101), some (.int (nI at0)), some (.int (nI to0)), some (.int (nI F)), some (.int (nI n)), o5, o6] [] g J K := by
    intro J hJ hcs hv o5 o6
    have hJN : J 102 = N := (hJ 102 (by decide)).trans hN
    have hat := hv at0 ha
    have hle := dst_le (c := cst N tn F) (goal := to0) he at0
    have k2 := kk J hJ
    unfold nxt at k2
    by_cases hD : dst (ed N) (cst N tn F) n to0 at0 < 1000000
    · rw [if_pos hD] at k2
      have loop : ∀ m x5 o6, m ≤ n → x5 = (if m = 0 then (-1 : Int32) else nI (m - 1)) → Rl 4 M_M_firstBit 65 [some (.ref 101), some (.int (nI at0)), some (.int (nI to0)), some (.int (nI F)), some (.int (opt1 (lsq (fbP (ed N) (cst N tn F) (dst (ed N) (cst N tn F) n to0) at0) m (n - m)))), some (.int x5), o6] [] g J K := by
        intro m
        induction m with
        | zero =>
          intro x5 o6 hm hx
          rw [if_pos rfl] at hx
          subst hx
          repeat' (first
            | refine T_iconst (v := (nI 0)) (pc1 := 1) (pc := 0) k_M_firstBit_0 rfl (by decide) ?_
            | refine T_istore (pc1 := 3) (pc := 1) k_M_firstBit_1 rfl (Nat.le_of_ble_eq_true rfl) ?_
            | refine T_iload (pc1 := 5) (pc := 3) k_M_firstBit_3 rfl rfl ?_
            | refine T_aload_n (pc1 := 6) (pc := 5) k_M_firstBit_5 rfl rfl ?_
            | refine T_aload_nN (pc1 := 6) (pc := 5) k_M_firstBit_5 rfl rfl ?_
            | refine T_getR (pc1 := 9) (pc := 6) k_M_firstBit_6 rfl f_M_9 rfl (by first | exact ga G (by decide) rfl | assumption) (by first | exact gr G (by decide) rfl | assumption) ?_
            | refine T_iconst (v := (nI 5)) (pc1 := 10) (pc := 9) k_M_firstBit_9 rfl (by decide) ?_
            | refine T_ialdN (pc1 := 11) (pc := 10) k_M_firstBit_10 rfl (by first | exact ga G (by decide) rfl | assumption) (by omega) (by omega) (by first | assumption | (simp (disch := omega) only [pI_eq, pI_row, pI_col, va_up_self, va_up_ne, ne_eq, not_false_eq_true, hJN, h5, eo, et, hc1] <;> rfl) | rfl) ?_
            | refine T_iald (pc1 := 11) (pc := 10) k_M_firstBit_10 rfl (by first | exact ga G (by decide) rfl | assumption) (by assumption) ?_
            | (with_reducible refine T_icmp_geN (tgt := 47) (pc1 := 14) (pc := 11) k_M_firstBit_11 (by decide) (by decide) (by omega) (by omega) (fun hc => ?_) (fun hc => ?_) <;> first | (exfalso; omega) | skip)
            | refine T_icmp_ge_t (tgt := 47) (pc := 11) k_M_firstBit_11 rfl (by decide) ?_
            | refine T_icmp_ge_f (tgt := 47) (pc1 := 14) (pc := 11) k_M_firstBit_11 rfl rfl (by decide) ?_
            | refine T_icmp_ge (tgt := 47) (pc1 := 14) (pc := 11) k_M_firstBit_11 rfl rfl (fun hc => ?_) (fun hc => ?_)
            | refine T_aload_n (pc1 := 15) (pc := 14) k_M_firstBit_14 rfl rfl ?_
            | refine T_aload_nN (pc1 := 15) (pc := 14) k_M_firstBit_14 rfl rfl ?_
            | refine T_getR (pc1 := 18) (pc := 15) k_M_firstBit_15 rfl f_M_19 rfl (by first | exact ga G (by decide) rfl | assumption) (by first | exact gr G (by decide) rfl | assumption) ?_
            | refine T_iload (pc1 := 20) (pc := 18) k_M_firstBit_18 rfl rfl ?_
            | refine T_iload_n (pc1 := 21) (pc := 20) k_M_firstBit_20 rfl rfl ?_
            | refine T_iload (pc1 := 23) (pc := 21) k_M_firstBit_21 rfl rfl ?_
            | refine T_ishr (pc1 := 24) (pc := 23) k_M_firstBit_23 rfl ?_
            | refine T_iconst (v := (nI 1)) (pc1 := 25) (pc := 24) k_M_firstBit_24 rfl (by decide) ?_
            | refine T_iand (pc1 := 26) (pc := 25) k_M_firstBit_25 rfl ?_
            | refine T_iconst (v := (nI 1)) (pc1 := 27) (pc := 26) k_M_firstBit_26 rfl (by decide) ?_
            | (with_reducible refine T_icmp_neN (tgt := 34) (pc1 := 30) (pc := 27) k_M_firstBit_27 (by decide) (by decide) (by omega) (by omega) (fun hc => ?_) (fun hc => ?_) <;> first | (exfalso; omega) | skip)
            | refine T_icmp_ne_t (tgt := 34) (pc := 27) k_M_firstBit_27 rfl (by decide) ?_
            | refine T_icmp_ne_f (tgt := 34) (pc1 := 30) (pc := 27) k_M_firstBit_27 rfl rfl (by decide) ?_
            | refine T_icmp_ne (tgt := 34) (pc1 := 30) (pc := 27) k_M_firstBit_27 rfl rfl (fun hc => ?_) (fun hc => ?_)
            | refine T_iconst (v := (nI 0)) (pc1 := 31) (pc := 30) k_M_firstBit_30 rfl (by decide) ?_
            | refine T_goto (tgt := 40) (pc := 31) k_M_firstBit_31 rfl ?_
            | refine T_aload_n (pc1 := 35) (pc := 34) k_M_firstBit_34 rfl rfl ?_
            | refine T_aload_nN (pc1 := 35) (pc := 34) k_M_firstBit_34 rfl rfl ?_
            | refine T_iload (pc1 := 37) (pc := 35) k_M_firstBit_35 rfl rfl ?_
            | (refine T_cV (As := [_]) (d1 := 3) (pc1 := 40) (pc := 37) k_M_firstBit_37 rfl (by decide) (Nat.le_of_ble_eq_true rfl) rfl o_M_thinks l_M_149 rfl (by first | exact ga G (by decide) rfl | assumption) rfl (c_M_thinks G (by assumption) (by assumption) (by assumption) (fun J hJ => ?_)) <;> try dsimp only [psh])
            | refine T_iastN (pc1 := 41) (pc := 40) k_M_firstBit_40 rfl (by first | exact ga G (by decide) rfl | assumption) (by omega) (by omega) ?_
            | refine T_iincN (b := 1) (pc1 := 44) (pc := 41) k_M_firstBit_41 rfl rfl (by decide) ?_
            | refine T_iinc (v := (nI 1)) (pc1 := 44) (pc := 41) k_M_firstBit_41 rfl rfl (by decide) ?_
            | refine T_goto (tgt := 3) (pc := 44) k_M_firstBit_44 rfl ?_
            | refine T_aload_n (pc1 := 48) (pc := 47) k_M_firstBit_47 rfl rfl ?_
            | refine T_aload_nN (pc1 := 48) (pc := 47) k_M_firstBit_47 rfl rfl ?_
            | refine T_iload_n (pc1 := 49) (pc := 48) k_M_firstBit_48 rfl rfl ?_
            | refine T_iconst (v := (-1)) (pc1 := 53) (pc := 52) k_M_firstBit_52 rfl (by decide) ?_
            | refine T_istore (pc1 := 55) (pc := 53) k_M_firstBit_53 rfl (Nat.le_of_ble_eq_true rfl) ?_
            | refine T_aload_n (pc1 := 56) (pc := 55) k_M_firstBit_55 rfl rfl ?_
            | refine T_aload_nN (pc1 := 56) (pc := 55) k_M_firstBit_55 rfl rfl ?_
            | refine T_getR (pc1 := 59) (pc := 56) k_M_firstBit_56 rfl f_M_9 rfl (by first | exact ga G (by decide) rfl | assumption) (by first | exact gr G (by decide) rfl | assumption) ?_
            | refine T_iconst (v := (nI 5)) (pc1 := 60) (pc := 59) k_M_firstBit_59 rfl (by decide) ?_
            | refine T_ialdN (pc1 := 61) (pc := 60) k_M_firstBit_60 rfl (by first | exact ga G (by decide) rfl | assumption) (by omega) (by omega) (by first | assumption | (simp (disch := omega) only [pI_eq, pI_row, pI_col, va_up_self, va_up_ne, ne_eq, not_false_eq_true, hJN, h5, eo, et, hc1] <;> rfl) | rfl) ?_
            | refine T_iald (pc1 := 61) (pc := 60) k_M_firstBit_60 rfl (by first | exact ga G (by decide) rfl | assumption) (by assumption) ?_
            | refine T_iconst (v := (nI 1)) (pc1 := 62) (pc := 61) k_M_firstBit_61 rfl (by decide) ?_
            | with_reducible refine T_isubN (pc1 := 63) (pc := 62) k_M_firstBit_62 (by decide) (by omega) ?_
            | refine T_isub (pc1 := 63) (pc := 62) k_M_firstBit_62 rfl ?_
            | refine T_istore (pc1 := 65) (pc := 63) k_M_firstBit_63 rfl (Nat.le_of_ble_eq_true rfl) ?_
            | refine T_iload (pc1 := 67) (pc := 65) k_M_firstBit_65 rfl rfl ?_
            | (with_reducible refine T_if_ltN (tgt := 144) (pc1 := 70) (pc := 67) k_M_firstBit_67 (by decide) (by decide) (by omega) ?_ <;> first | (exfalso; omega) | skip)
            | refine T_if_lt_t (tgt := 144) (pc := 67) k_M_firstBit_67 rfl (by decide) ?_
            | refine T_if_lt_f (tgt := 144) (pc1 := 70) (pc := 67) k_M_firstBit_67 rfl rfl (by decide) ?_
            | refine T_if_lt (tgt := 144) (pc1 := 70) (pc := 67) k_M_firstBit_67 rfl rfl (fun hc => ?_) (fun hc => ?_)
            | refine T_aload_n (pc1 := 71) (pc := 70) k_M_firstBit_70 rfl rfl ?_
            | refine T_aload_nN (pc1 := 71) (pc := 70) k_M_firstBit_70 rfl rfl ?_
            | refine T_getR (pc1 := 74) (pc := 71) k_M_firstBit_71 rfl f_M_22 rfl (by first | exact ga G (by decide) rfl | assumption) (by first | exact gr G (by decide) rfl | assumption) ?_
            | refine T_iload_n (pc1 := 75) (pc := 74) k_M_firstBit_74 rfl rfl ?_
            | refine T_ialdN (pc1 := 76) (pc := 75) k_M_firstBit_75 rfl (by first | exact ga G (by decide) rfl | assumption) (by omega) (by omega) (by first | assumption | (simp (disch := omega) only [pI_eq, pI_row, pI_col, va_up_self, va_up_ne, ne_eq, not_false_eq_true, hJN, h5, eo, et, hc1] <;> rfl) | rfl) ?_
            | refine T_iald (pc1 := 76) (pc := 75) k_M_firstBit_75 rfl (by first | exact ga G (by decide) rfl | assumption) (by assumption) ?_
            | refine T_ldc (v := (nI 1000000)) (pc1 := 78) (pc := 76) k_M_firstBit_76 rfl c_M_163 ?_
            | (with_reducible refine T_icmp_geN (tgt := 144) (pc1 := 81) (pc := 78) k_M_firstBit_78 (by decide) (by decide) (by omega) (by omega) (fun hc => ?_) (fun hc => ?_) <;> first | (exfalso; omega) | skip)
            | refine T_icmp_ge_t (tgt := 144) (pc := 78) k_M_firstBit_78 rfl (by decide) ?_
            | refine T_icmp_ge_f (tgt := 144) (pc1 := 81) (pc := 78) k_M_firstBit_78 rfl rfl (by decide) ?_
            | refine T_icmp_ge (tgt := 144) (pc1 := 81) (pc := 78) k_M_firstBit_78 rfl rfl (fun hc => ?_) (fun hc => ?_)
            | refine T_aload_n (pc1 := 82) (pc := 81) k_M_firstBit_81 rfl rfl ?_
            | refine T_aload_nN (pc1 := 82) (pc := 81) k_M_firstBit_81 rfl rfl ?_
            | refine T_iload (pc1 := 84) (pc := 82) k_M_firstBit_82 rfl rfl ?_
            | refine T_iload_n (pc1 := 85) (pc := 84) k_M_firstBit_84 rfl rfl ?_
            | refine T_istore (pc1 := 90) (pc := 88) k_M_firstBit_88 rfl (Nat.le_of_ble_eq_true rfl) ?_
            | refine T_iload (pc1 := 92) (pc := 90) k_M_firstBit_90 rfl rfl ?_
            | (with_reducible refine T_if_ltN (tgt := 134) (pc1 := 95) (pc := 92) k_M_firstBit_92 (by decide) (by decide) (by omega) ?_ <;> first | (exfalso; omega) | skip)
            | refine T_if_lt_t (tgt := 134) (pc := 92) k_M_firstBit_92 rfl (by decide) ?_
            | refine T_if_lt_f (tgt := 134) (pc1 := 95) (pc := 92) k_M_firstBit_92 rfl rfl (by decide) ?_
            | refine T_if_lt (tgt := 134) (pc1 := 95) (pc := 92) k_M_firstBit_92 rfl rfl (fun hc => ?_) (fun hc => ?_)
            | refine T_aload_n (pc1 := 96) (pc := 95) k_M_firstBit_95 rfl rfl ?_
            | refine T_aload_nN (pc1 := 96) (pc := 95) k_M_firstBit_95 rfl rfl ?_
            | refine T_getR (pc1 := 99) (pc := 96) k_M_firstBit_96 rfl f_M_19 rfl (by first | exact ga G (by decide) rfl | assumption) (by first | exact gr G (by decide) rfl | assumption) ?_
            | refine T_iload (pc1 := 101) (pc := 99) k_M_firstBit_99 rfl rfl ?_
            | refine T_ialdN (pc1 := 102) (pc := 101) k_M_firstBit_101 rfl (by first | exact ga G (by decide) rfl | assumption) (by omega) (by omega) (by first | assumption | (simp (disch := omega) only [pI_eq, pI_row, pI_col, va_up_self, va_up_ne, ne_eq, not_false_eq_true, hJN, h5, eo, et, hc1] <;> rfl) | rfl) ?_
            | refine T_iald (pc1 := 102) (pc := 101) k_M_firstBit_101 rfl (by first | exact ga G (by decide) rfl | assumption) (by assumption) ?_
            | (with_reducible refine T_if_leN (tgt := 134) (pc1 := 105) (pc := 102) k_M_firstBit_102 (by decide) (by decide) (by omega) (fun hc => ?_) (fun hc => ?_) <;> first | (exfalso; omega) | skip)
            | refine T_if_le_t (tgt := 134) (pc := 102) k_M_firstBit_102 rfl (by decide) ?_
            | refine T_if_le_f (tgt := 134) (pc1 := 105) (pc := 102) k_M_firstBit_102 rfl rfl (by decide) ?_
            | refine T_if_le (tgt := 134) (pc1 := 105) (pc := 102) k_M_firstBit_102 rfl rfl (fun hc => ?_) (fun hc => ?_)
            | refine T_aload_n (pc1 := 106) (pc := 105) k_M_firstBit_105 rfl rfl ?_
            | refine T_aload_nN (pc1 := 106) (pc := 105) k_M_firstBit_105 rfl rfl ?_
            | refine T_getR (pc1 := 109) (pc := 106) k_M_firstBit_106 rfl f_M_22 rfl (by first | exact ga G (by decide) rfl | assumption) (by first | exact gr G (by decide) rfl | assumption) ?_
            | refine T_iload (pc1 := 111) (pc := 109) k_M_firstBit_109 rfl rfl ?_
            | refine T_ialdN (pc1 := 112) (pc := 111) k_M_firstBit_111 rfl (by first | exact ga G (by decide) rfl | assumption) (by omega) (by omega) (by first | assumption | (simp (disch := omega) only [pI_eq, pI_row, pI_col, va_up_self, va_up_ne, ne_eq, not_false_eq_true, hJN, h5, eo, et, hc1] <;> rfl) | rfl) ?_
            | refine T_iald (pc1 := 112) (pc := 111) k_M_firstBit_111 rfl (by first | exact ga G (by decide) rfl | assumption) (by assumption) ?_
            | refine T_aload_n (pc1 := 113) (pc := 112) k_M_firstBit_112 rfl rfl ?_
            | refine T_aload_nN (pc1 := 113) (pc := 112) k_M_firstBit_112 rfl rfl ?_
            | refine T_getR (pc1 := 116) (pc := 113) k_M_firstBit_113 rfl f_M_19 rfl (by first | exact ga G (by decide) rfl | assumption) (by first | exact gr G (by decide) rfl | assumption) ?_
            | refine T_iload (pc1 := 118) (pc := 116) k_M_firstBit_116 rfl rfl ?_
            | refine T_ialdN (pc1 := 119) (pc := 118) k_M_firstBit_118 rfl (by first | exact ga G (by decide) rfl | assumption) (by omega) (by omega) (by first | assumption | (simp (disch := omega) only [pI_eq, pI_row, pI_col, va_up_self, va_up_ne, ne_eq, not_false_eq_true, hJN, h5, eo, et, hc1] <;> rfl) | rfl) ?_
            | refine T_iald (pc1 := 119) (pc := 118) k_M_firstBit_118 rfl (by first | exact ga G (by decide) rfl | assumption) (by assumption) ?_
            | with_reducible refine T_iaddN (pc1 := 120) (pc := 119) k_M_firstBit_119 (by decide) ?_
            | refine T_iadd (pc1 := 120) (pc := 119) k_M_firstBit_119 rfl ?_
            | refine T_aload_n (pc1 := 121) (pc := 120) k_M_firstBit_120 rfl rfl ?_
            | refine T_aload_nN (pc1 := 121) (pc := 120) k_M_firstBit_120 rfl rfl ?_
            | refine T_getR (pc1 := 124) (pc := 121) k_M_firstBit_121 rfl f_M_22 rfl (by first | exact ga G (by decide) rfl | assumption) (by first | exact gr G (by decide) rfl | assumption) ?_
            | refine T_iload_n (pc1 := 125) (pc := 124) k_M_firstBit_124 rfl rfl ?_
            | refine T_ialdN (pc1 := 126) (pc := 125) k_M_firstBit_125 rfl (by first | exact ga G (by decide) rfl | assumption) (by omega) (by omega) (by first | assumption | (simp (disch := omega) only [pI_eq, pI_row, pI_col, va_up_self, va_up_ne, ne_eq, not_false_eq_true, hJN, h5, eo, et, hc1] <;> rfl) | rfl) ?_
            | refine T_iald (pc1 := 126) (pc := 125) k_M_firstBit_125 rfl (by first | exact ga G (by decide) rfl | assumption) (by assumption) ?_
            | (with_reducible refine T_icmp_neN (tgt := 134) (pc1 := 129) (pc := 126) k_M_firstBit_126 (by decide) (by decide) (by omega) (by omega) (fun hc => ?_) (fun hc => ?_) <;> first | (exfalso; omega) | skip)
            | refine T_icmp_ne_t (tgt := 134) (pc := 126) k_M_firstBit_126 rfl (by decide) ?_
            | refine T_icmp_ne_f (tgt := 134) (pc1 := 129) (pc := 126) k_M_firstBit_126 rfl rfl (by decide) ?_
            | refine T_icmp_ne (tgt := 134) (pc1 := 129) (pc := 126) k_M_firstBit_126 rfl rfl (fun hc => ?_) (fun hc => ?_)
            | refine T_iload (pc1 := 131) (pc := 129) k_M_firstBit_129 rfl rfl ?_
            | refine T_goto (tgt := 136) (pc := 131) k_M_firstBit_131 rfl ?_
            | refine T_iload (pc1 := 136) (pc := 134) k_M_firstBit_134 rfl rfl ?_
            | refine T_istore (pc1 := 138) (pc := 136) k_M_firstBit_136 rfl (Nat.le_of_ble_eq_true rfl) ?_
            | refine T_iinc (v := (-1)) (pc1 := 141) (pc := 138) k_M_firstBit_138 rfl rfl (by decide) ?_
            | refine T_goto (tgt := 65) (pc := 141) k_M_firstBit_141 rfl ?_
            | refine T_iload (pc1 := 146) (pc := 144) k_M_firstBit_144 rfl rfl ?_
            | refine T_retI (pc := 146) k_M_firstBit_146 rfl (by first | rfl | decide | assumption) ?_)
          exact k2
        | succ m ih =>
          intro x5 o6 hm hx
          rw [if_neg (by omega), show m + 1 - 1 = m by omega] at hx
          subst hx
          have hcm := hcs m (by omega)
          have hcl := cst_le (F := F) ok (show m < n by omega)
          obtain ⟨he1, he2, hen⟩ := he m (by omega)
          have v1 := hv _ he1
          have v2 := hv _ he2
          have b1 := dst_le (c := cst N tn F) (goal := to0) he (ed N m).1
          have b2 := dst_le (c := cst N tn F) (goal := to0) he (ed N m).2
          have hlsq : lsq (fbP (ed N) (cst N tn F) (dst (ed N) (cst N tn F) n to0) at0) m (n - m) = if fbP (ed N) (cst N tn F) (dst (ed N) (cst N tn F) n to0) at0 m = true then some m else lsq (fbP (ed N) (cst N tn F) (dst (ed N) (cst N tn F) n to0) at0) (m + 1) (n - (m + 1)) := by
            rw [show n - m = (n - (m + 1)) + 1 by omega]; rfl
          have ih := fun o6 => ih _ o6 (by omega) rfl
          rw [hlsq] at ih
          have hdec : nI m + -1 = (if m = 0 then (-1 : Int32) else nI (m - 1)) := by
            by_cases h0 : m = 0
            · subst h0; rfl
            · obtain ⟨m', rfl⟩ : ∃ m', m = m' + 1 := ⟨m - 1, by omega⟩
              rw [pk_m1, if_neg (by omega), show m' + 1 - 1 = m' by omega]
          refine T_iload (pc1 := 67) (pc := 65) k_M_firstBit_65 rfl rfl ?_
          repeat' (first
            | refine T_iconst (v := (nI 0)) (pc1 := 1) (pc := 0) k_M_firstBit_0 rfl (by decide) ?_
            | refine T_istore (pc1 := 3) (pc := 1) k_M_firstBit_1 rfl (Nat.le_of_ble_eq_true rfl) ?_
            | refine T_iload (pc1 := 5) (pc := 3) k_M_firstBit_3 rfl rfl ?_
            | refine T_aload_n (pc1 := 6) (pc := 5) k_M_firstBit_5 rfl rfl ?_
            | refine T_aload_nN (pc1 := 6) (pc := 5) k_M_firstBit_5 rfl rfl ?_
            | refine T_getR (pc1 := 9) (pc := 6) k_M_firstBit_6 rfl f_M_9 rfl (by first | exact ga G (by decide) rfl | assumption) (by first | exact gr G (by decide) rfl | assumption) ?_
            | refine T_iconst (v := (nI 5)) (pc1 := 10) (pc := 9) k_M_firstBit_9 rfl (by decide) ?_
            | refine T_ialdN (pc1 := 11) (pc := 10) k_M_firstBit_10 rfl (by first | exact ga G (by decide) rfl | assumption) (by omega) (by omega) (by first | assumption | (simp (disch := omega) only [pI_eq, pI_row, pI_col, va_up_self, va_up_ne, ne_eq, not_false_eq_true, hJN, h5, eo, et, hc1] <;> rfl) | rfl) ?_
            | refine T_iald (pc1 := 11) (pc := 10) k_M_firstBit_10 rfl (by first | exact ga G (by decide) rfl | assumption) (by assumption) ?_
            | (with_reducible refine T_icmp_geN (tgt := 47) (pc1 := 14) (pc := 11) k_M_firstBit_11 (by decide) (by decide) (by omega) (by omega) (fun hc => ?_) (fun hc => ?_) <;> first | (exfalso; omega) | skip)
            | refine T_icmp_ge_t (tgt := 47) (pc := 11) k_M_firstBit_11 rfl (by decide) ?_
            | refine T_icmp_ge_f (tgt := 47) (pc1 := 14) (pc := 11) k_M_firstBit_11 rfl rfl (by decide) ?_
            | refine T_icmp_ge (tgt := 47) (pc1 := 14) (pc := 11) k_M_firstBit_11 rfl rfl (fun hc => ?_) (fun hc => ?_)
            | refine T_aload_n (pc1 := 15) (pc := 14) k_M_firstBit_14 rfl rfl ?_
            | refine T_aload_nN (pc1 := 15) (pc := 14) k_M_firstBit_14 rfl rfl ?_
            | refine T_getR (pc1 := 18) (pc := 15) k_M_firstBit_15 rfl f_M_19 rfl (by first | exact ga G (by decide) rfl | assumption) (by first | exact gr G (by decide) rfl | assumption) ?_
            | refine T_iload (pc1 := 20) (pc := 18) k_M_firstBit_18 rfl rfl ?_
            | refine T_iload_n (pc1 := 21) (pc := 20) k_M_firstBit_20 rfl rfl ?_
            | refine T_iload (pc1 := 23) (pc := 21) k_M_firstBit_21 rfl rfl ?_
            | refine T_ishr (pc1 := 24) (pc := 23) k_M_firstBit_23 rfl ?_
            | refine T_iconst (v := (nI 1)) (pc1 := 25) (pc := 24) k_M_firstBit_24 rfl (by decide) ?_
            | refine T_iand (pc1 := 26) (pc := 25) k_M_firstBit_25 rfl ?_
            | refine T_iconst (v := (nI 1)) (pc1 := 27) (pc := 26) k_M_firstBit_26 rfl (by decide) ?_
            | (with_reducible refine T_icmp_neN (tgt := 34) (pc1 := 30) (pc := 27) k_M_firstBit_27 (by decide) (by decide) (by omega) (by omega) (fun hc => ?_) (fun hc => ?_) <;> first | (exfalso; omega) | skip)
            | refine T_icmp_ne_t (tgt := 34) (pc := 27) k_M_firstBit_27 rfl (by decide) ?_
            | refine T_icmp_ne_f (tgt := 34) (pc1 := 30) (pc := 27) k_M_firstBit_27 rfl rfl (by decide) ?_
            | refine T_icmp_ne (tgt := 34) (pc1 := 30) (pc := 27) k_M_firstBit_27 rfl rfl (fun hc => ?_) (fun hc => ?_)
            | refine T_iconst (v := (nI 0)) (pc1 := 31) (pc := 30) k_M_firstBit_30 rfl (by decide) ?_
            | refine T_goto (tgt := 40) (pc := 31) k_M_firstBit_31 rfl ?_
            | refine T_aload_n (pc1 := 35) (pc := 34) k_M_firstBit_34 rfl rfl ?_
            | refine T_aload_nN (pc1 := 35) (pc := 34) k_M_firstBit_34 rfl rfl ?_
            | refine T_iload (pc1 := 37) (pc := 35) k_M_firstBit_35 rfl rfl ?_
            | (refine T_cV (As := [_]) (d1 := 3) (pc1 := 40) (pc := 37) k_M_firstBit_37 rfl (by decide) (Nat.le_of_ble_eq_true rfl) rfl o_M_thinks l_M_149 rfl (by first | exact ga G (by decide) rfl | assumption) rfl (c_M_thinks G (by assumption) (by assumption) (by assumption) (fun J hJ => ?_)) <;> try dsimp only [psh])
            | refine T_iastN (pc1 := 41) (pc := 40) k_M_firstBit_40 rfl (by first | exact ga G (by decide) rfl | assumption) (by omega) (by omega) ?_
            | refine T_iincN (b := 1) (pc1 := 44) (pc := 41) k_M_firstBit_41 rfl rfl (by decide) ?_
            | refine T_iinc (v := (nI 1)) (pc1 := 44) (pc := 41) k_M_firstBit_41 rfl rfl (by decide) ?_
            | refine T_goto (tgt := 3) (pc := 44) k_M_firstBit_44 rfl ?_
            | refine T_aload_n (pc1 := 48) (pc := 47) k_M_firstBit_47 rfl rfl ?_
            | refine T_aload_nN (pc1 := 48) (pc := 47) k_M_firstBit_47 rfl rfl ?_
            | refine T_iload_n (pc1 := 49) (pc := 48) k_M_firstBit_48 rfl rfl ?_
            | refine T_iconst (v := (-1)) (pc1 := 53) (pc := 52) k_M_firstBit_52 rfl (by decide) ?_
            | refine T_istore (pc1 := 55) (pc := 53) k_M_firstBit_53 rfl (Nat.le_of_ble_eq_true rfl) ?_
            | refine T_aload_n (pc1 := 56) (pc := 55) k_M_firstBit_55 rfl rfl ?_
            | refine T_aload_nN (pc1 := 56) (pc := 55) k_M_firstBit_55 rfl rfl ?_
            | refine T_getR (pc1 := 59) (pc := 56) k_M_firstBit_56 rfl f_M_9 rfl (by first | exact ga G (by decide) rfl | assumption) (by first | exact gr G (by decide) rfl | assumption) ?_
            | refine T_iconst (v := (nI 5)) (pc1 := 60) (pc := 59) k_M_firstBit_59 rfl (by decide) ?_
            | refine T_ialdN (pc1 := 61) (pc := 60) k_M_firstBit_60 rfl (by first | exact ga G (by decide) rfl | assumption) (by omega) (by omega) (by first | assumption | (simp (disch := omega) only [pI_eq, pI_row, pI_col, va_up_self, va_up_ne, ne_eq, not_false_eq_true, hJN, h5, eo, et, hc1] <;> rfl) | rfl) ?_
            | refine T_iald (pc1 := 61) (pc := 60) k_M_firstBit_60 rfl (by first | exact ga G (by decide) rfl | assumption) (by assumption) ?_
            | refine T_iconst (v := (nI 1)) (pc1 := 62) (pc := 61) k_M_firstBit_61 rfl (by decide) ?_
            | with_reducible refine T_isubN (pc1 := 63) (pc := 62) k_M_firstBit_62 (by decide) (by omega) ?_
            | refine T_isub (pc1 := 63) (pc := 62) k_M_firstBit_62 rfl ?_
            | refine T_istore (pc1 := 65) (pc := 63) k_M_firstBit_63 rfl (Nat.le_of_ble_eq_true rfl) ?_
            | (with_reducible refine T_if_ltN (tgt := 144) (pc1 := 70) (pc := 67) k_M_firstBit_67 (by decide) (by decide) (by omega) ?_ <;> first | (exfalso; omega) | skip)
            | refine T_if_lt_t (tgt := 144) (pc := 67) k_M_firstBit_67 rfl (by decide) ?_
            | refine T_if_lt_f (tgt := 144) (pc1 := 70) (pc := 67) k_M_firstBit_67 rfl rfl (by decide) ?_
            | refine T_if_lt (tgt := 144) (pc1 := 70) (pc := 67) k_M_firstBit_67 rfl rfl (fun hc => ?_) (fun hc => ?_)
            | refine T_aload_n (pc1 := 71) (pc := 70) k_M_firstBit_70 rfl rfl ?_
            | refine T_aload_nN (pc1 := 71) (pc := 70) k_M_firstBit_70 rfl rfl ?_
            | refine T_getR (pc1 := 74) (pc := 71) k_M_firstBit_71 rfl f_M_22 rfl (by first | exact ga G (by decide) rfl | assumption) (by first | exact gr G (by decide) rfl | assumption) ?_
            | refine T_iload_n (pc1 := 75) (pc := 74) k_M_firstBit_74 rfl rfl ?_
            | refine T_ialdN (pc1 := 76) (pc := 75) k_M_firstBit_75 rfl (ga G (by decide) rfl) (by omega) (by omega) hat ?_
            | refine T_ldc (v := (nI 1000000)) (pc1 := 78) (pc := 76) k_M_firstBit_76 rfl c_M_163 ?_
            | (with_reducible refine T_icmp_geN (tgt := 144) (pc1 := 81) (pc := 78) k_M_firstBit_78 (by decide) (by decide) (by omega) (by omega) (fun hc => ?_) (fun hc => ?_) <;> first | (exfalso; omega) | skip)
            | refine T_icmp_ge_t (tgt := 144) (pc := 78) k_M_firstBit_78 rfl (by decide) ?_
            | refine T_icmp_ge_f (tgt := 144) (pc1 := 81) (pc := 78) k_M_firstBit_78 rfl rfl (by decide) ?_
            | refine T_icmp_ge (tgt := 144) (pc1 := 81) (pc := 78) k_M_firstBit_78 rfl rfl (fun hc => ?_) (fun hc => ?_)
            | refine T_aload_n (pc1 := 82) (pc := 81) k_M_firstBit_81 rfl rfl ?_
            | refine T_aload_nN (pc1 := 82) (pc := 81) k_M_firstBit_81 rfl rfl ?_
            | refine T_iload (pc1 := 84) (pc := 82) k_M_firstBit_82 rfl rfl ?_
            | refine T_iload_n (pc1 := 85) (pc := 84) k_M_firstBit_84 rfl rfl ?_
            | (refine T_cV (As := [_, _]) (d1 := 2) (pc1 := 88) (pc := 85) k_M_firstBit_85 rfl (by decide) (Nat.le_of_ble_eq_true rfl) rfl o_M_otherEnd l_M_168 rfl (by first | exact ga G (by decide) rfl | assumption) rfl (c_M_otherEnd G hJN ok (by omega) ha (fun v w1 w2 w3 => ?_)) <;> try dsimp only [psh])
            | refine T_istore (pc1 := 90) (pc := 88) k_M_firstBit_88 rfl (Nat.le_of_ble_eq_true rfl) ?_
            | refine T_iload (pc1 := 92) (pc := 90) k_M_firstBit_90 rfl rfl ?_
            | refine T_aload_n (pc1 := 96) (pc := 95) k_M_firstBit_95 rfl rfl ?_
            | refine T_aload_nN (pc1 := 96) (pc := 95) k_M_firstBit_95 rfl rfl ?_
            | refine T_getR (pc1 := 99) (pc := 96) k_M_firstBit_96 rfl f_M_19 rfl (by first | exact ga G (by decide) rfl | assumption) (by first | exact gr G (by decide) rfl | assumption) ?_
            | refine T_iload (pc1 := 101) (pc := 99) k_M_firstBit_99 rfl rfl ?_
            | refine T_ialdN (pc1 := 102) (pc := 101) k_M_firstBit_101 rfl (ga G (by decide) rfl) (by omega) (by omega) hcm ?_
            | (with_reducible refine T_if_leN (tgt := 134) (pc1 := 105) (pc := 102) k_M_firstBit_102 (by decide) (by decide) (by omega) (fun hc => ?_) (fun hc => ?_) <;> first | (exfalso; omega) | skip)
            | refine T_if_le_t (tgt := 134) (pc := 102) k_M_firstBit_102 rfl (by decide) ?_
            | refine T_if_le_f (tgt := 134) (pc1 := 105) (pc := 102) k_M_firstBit_102 rfl rfl (by decide) ?_
            | refine T_if_le (tgt := 134) (pc1 := 105) (pc := 102) k_M_firstBit_102 rfl rfl (fun hc => ?_) (fun hc => ?_)
            | refine T_aload_n (pc1 := 106) (pc := 105) k_M_firstBit_105 rfl rfl ?_
            | refine T_aload_nN (pc1 := 106) (pc := 105) k_M_firstBit_105 rfl rfl ?_
            | refine T_getR (pc1 := 109) (pc := 106) k_M_firstBit_106 rfl f_M_22 rfl (by first | exact ga G (by decide) rfl | assumption) (by first | exact gr G (by decide) rfl | assumption) ?_
            | refine T_iload (pc1 := 111) (pc := 109) k_M_firstBit_109 rfl rfl ?_
            | refine T_ialdN (pc1 := 112) (pc := 111) k_M_firstBit_111 rfl (ga G (by decide) rfl) (by omega) (by omega) (by first | exact v2 | exact v1) ?_
            | refine T_aload_n (pc1 := 113) (pc := 112) k_M_firstBit_112 rfl rfl ?_
            | refine T_aload_nN (pc1 := 113) (pc := 112) k_M_firstBit_112 rfl rfl ?_
            | refine T_getR (pc1 := 116) (pc := 113) k_M_firstBit_113 rfl f_M_19 rfl (by first | exact ga G (by decide) rfl | assumption) (by first | exact gr G (by decide) rfl | assumption) ?_
            | refine T_iload (pc1 := 118) (pc := 116) k_M_firstBit_116 rfl rfl ?_
            | refine T_ialdN (pc1 := 119) (pc := 118) k_M_firstBit_118 rfl (ga G (by decide) rfl) (by omega) (by omega) hcm ?_
            | with_reducible refine T_iaddN (pc1 := 120) (pc := 119) k_M_firstBit_119 (by decide) ?_
            | refine T_iadd (pc1 := 120) (pc := 119) k_M_firstBit_119 rfl ?_
            | refine T_aload_n (pc1 := 121) (pc := 120) k_M_firstBit_120 rfl rfl ?_
            | refine T_aload_nN (pc1 := 121) (pc := 120) k_M_firstBit_120 rfl rfl ?_
            | refine T_getR (pc1 := 124) (pc := 121) k_M_firstBit_121 rfl f_M_22 rfl (by first | exact ga G (by decide) rfl | assumption) (by first | exact gr G (by decide) rfl | assumption) ?_
            | refine T_iload_n (pc1 := 125) (pc := 124) k_M_firstBit_124 rfl rfl ?_
            | refine T_ialdN (pc1 := 126) (pc := 125) k_M_firstBit_125 rfl (ga G (by decide) rfl) (by omega) (by omega) hat ?_
            | (with_reducible refine T_icmp_neN (tgt := 134) (pc1 := 129) (pc := 126) k_M_firstBit_126 (by decide) (by decide) (by omega) (by omega) (fun hc => ?_) (fun hc => ?_) <;> first | (exfalso; omega) | skip)
            | refine T_icmp_ne_t (tgt := 134) (pc := 126) k_M_firstBit_126 rfl (by decide) ?_
            | refine T_icmp_ne_f (tgt := 134) (pc1 := 129) (pc := 126) k_M_firstBit_126 rfl rfl (by decide) ?_
            | refine T_icmp_ne (tgt := 134) (pc1 := 129) (pc := 126) k_M_firstBit_126 rfl rfl (fun hc => ?_) (fun hc => ?_)
            | refine T_iload (pc1 := 131) (pc := 129) k_M_firstBit_129 rfl rfl ?_
            | refine T_goto (tgt := 136) (pc := 131) k_M_firstBit_131 rfl ?_
            | refine T_iload (pc1 := 136) (pc := 134) k_M_firstBit_134 rfl rfl ?_
            | refine T_istore (pc1 := 138) (pc := 136) k_M_firstBit_136 rfl (Nat.le_of_ble_eq_true rfl) ?_
            | (refine T_iinc (v := (-1)) (pc1 := 141) (pc := 138) k_M_firstBit_138 rfl rfl (by decide) ?_; rw [hdec])
            | refine T_goto (tgt := 65) (pc := 141) k_M_firstBit_141 rfl ?_
            | refine T_iload (pc1 := 146) (pc := 144) k_M_firstBit_144 rfl rfl ?_
            | refine T_retI (pc := 146) k_M_firstBit_146 rfl (by first | rfl | decide | assumption) ?_)
          by_cases c1 : (ed N m).1 = at0
          · rw [w1 c1]
            repeat' (first
              | refine T_iconst (v := (nI 0)) (pc1 := 1) (pc := 0) k_M_firstBit_0 rfl (by decide) ?_
              | refine T_istore (pc1 := 3) (pc := 1) k_M_firstBit_1 rfl (Nat.le_of_ble_eq_true rfl) ?_
              | refine T_iload (pc1 := 5) (pc := 3) k_M_firstBit_3 rfl rfl ?_
              | refine T_aload_n (pc1 := 6) (pc := 5) k_M_firstBit_5 rfl rfl ?_
              | refine T_aload_nN (pc1 := 6) (pc := 5) k_M_firstBit_5 rfl rfl ?_
              | refine T_getR (pc1 := 9) (pc := 6) k_M_firstBit_6 rfl f_M_9 rfl (by first | exact ga G (by decide) rfl | assumption) (by first | exact gr G (by decide) rfl | assumption) ?_
              | refine T_iconst (v := (nI 5)) (pc1 := 10) (pc := 9) k_M_firstBit_9 rfl (by decide) ?_
              | refine T_ialdN (pc1 := 11) (pc := 10) k_M_firstBit_10 rfl (by first | exact ga G (by decide) rfl | assumption) (by omega) (by omega) (by first | assumption | (simp (disch := omega) only [pI_eq, pI_row, pI_col, va_up_self, va_up_ne, ne_eq, not_false_eq_true, hJN, h5, eo, et, hc1] <;> rfl) | rfl) ?_
              | refine T_iald (pc1 := 11) (pc := 10) k_M_firstBit_10 rfl (by first | exact ga G (by decide) rfl | assumption) (by assumption) ?_
              | (with_reducible refine T_icmp_geN (tgt := 47) (pc1 := 14) (pc := 11) k_M_firstBit_11 (by decide) (by decide) (by omega) (by omega) (fun hc => ?_) (fun hc => ?_) <;> first | (exfalso; omega) | skip)
              | refine T_icmp_ge_t (tgt := 47) (pc := 11) k_M_firstBit_11 rfl (by decide) ?_
              | refine T_icmp_ge_f (tgt := 47) (pc1 := 14) (pc := 11) k_M_firstBit_11 rfl rfl (by decide) ?_
              | refine T_icmp_ge (tgt := 47) (pc1 := 14) (pc := 11) k_M_firstBit_11 rfl rfl (fun hc => ?_) (fun hc => ?_)
              | refine T_aload_n (pc1 := 15) (pc := 14) k_M_firstBit_14 rfl rfl ?_
              | refine T_aload_nN (pc1 := 15) (pc := 14) k_M_firstBit_14 rfl rfl ?_
              | refine T_getR (pc1 := 18) (pc := 15) k_M_firstBit_15 rfl f_M_19 rfl (by first | exact ga G (by decide) rfl | assumption) (by first | exact gr G (by decide) rfl | assumption) ?_
              | refine T_iload (pc1 := 20) (pc := 18) k_M_firstBit_18 rfl rfl ?_
              | refine T_iload_n (pc1 := 21) (pc := 20) k_M_firstBit_20 rfl rfl ?_
              | refine T_iload (pc1 := 23) (pc := 21) k_M_firstBit_21 rfl rfl ?_
              | refine T_ishr (pc1 := 24) (pc := 23) k_M_firstBit_23 rfl ?_
              | refine T_iconst (v := (nI 1)) (pc1 := 25) (pc := 24) k_M_firstBit_24 rfl (by decide) ?_
              | refine T_iand (pc1 := 26) (pc := 25) k_M_firstBit_25 rfl ?_
              | refine T_iconst (v := (nI 1)) (pc1 := 27) (pc := 26) k_M_firstBit_26 rfl (by decide) ?_
              | (with_reducible refine T_icmp_neN (tgt := 34) (pc1 := 30) (pc := 27) k_M_firstBit_27 (by decide) (by decide) (by omega) (by omega) (fun hc => ?_) (fun hc => ?_) <;> first | (exfalso; omega) | skip)
              | refine T_icmp_ne_t (tgt := 34) (pc := 27) k_M_firstBit_27 rfl (by decide) ?_
              | refine T_icmp_ne_f (tgt := 34) (pc1 := 30) (pc := 27) k_M_firstBit_27 rfl rfl (by decide) ?_
              | refine T_icmp_ne (tgt := 34) (pc1 := 30) (pc := 27) k_M_firstBit_27 rfl rfl (fun hc => ?_) (fun hc => ?_)
              | refine T_iconst (v := (nI 0)) (pc1 := 31) (pc := 30) k_M_firstBit_30 rfl (by decide) ?_
              | refine T_goto (tgt := 40) (pc := 31) k_M_firstBit_31 rfl ?_
              | refine T_aload_n (pc1 := 35) (pc := 34) k_M_firstBit_34 rfl rfl ?_
              | refine T_aload_nN (pc1 := 35) (pc := 34) k_M_firstBit_34 rfl rfl ?_
              | refine T_iload (pc1 := 37) (pc := 35) k_M_firstBit_35 rfl rfl ?_
              | (refine T_cV (As := [_]) (d1 := 3) (pc1 := 40) (pc := 37) k_M_firstBit_37 rfl (by decide) (Nat.le_of_ble_eq_true rfl) rfl o_M_thinks l_M_149 rfl (by first | exact ga G (by decide) rfl | assumption) rfl (c_M_thinks G (by assumption) (by assumption) (by assumption) (fun J hJ => ?_)) <;> try dsimp only [psh])
              | refine T_iastN (pc1 := 41) (pc := 40) k_M_firstBit_40 rfl (by first | exact ga G (by decide) rfl | assumption) (by omega) (by omega) ?_
              | refine T_iincN (b := 1) (pc1 := 44) (pc := 41) k_M_firstBit_41 rfl rfl (by decide) ?_
              | refine T_iinc (v := (nI 1)) (pc1 := 44) (pc := 41) k_M_firstBit_41 rfl rfl (by decide) ?_
              | refine T_goto (tgt := 3) (pc := 44) k_M_firstBit_44 rfl ?_
              | refine T_aload_n (pc1 := 48) (pc := 47) k_M_firstBit_47 rfl rfl ?_
              | refine T_aload_nN (pc1 := 48) (pc := 47) k_M_firstBit_47 rfl rfl ?_
              | refine T_iload_n (pc1 := 49) (pc := 48) k_M_firstBit_48 rfl rfl ?_
              | refine T_iconst (v := (-1)) (pc1 := 53) (pc := 52) k_M_firstBit_52 rfl (by decide) ?_
              | refine T_istore (pc1 := 55) (pc := 53) k_M_firstBit_53 rfl (Nat.le_of_ble_eq_true rfl) ?_
              | refine T_aload_n (pc1 := 56) (pc := 55) k_M_firstBit_55 rfl rfl ?_
              | refine T_aload_nN (pc1 := 56) (pc := 55) k_M_firstBit_55 rfl rfl ?_
              | refine T_getR (pc1 := 59) (pc := 56) k_M_firstBit_56 rfl f_M_9 rfl (by first | exact ga G (by decide) rfl | assumption) (by first | exact gr G (by decide) rfl | assumption) ?_
              | refine T_iconst (v := (nI 5)) (pc1 := 60) (pc := 59) k_M_firstBit_59 rfl (by decide) ?_
              | refine T_ialdN (pc1 := 61) (pc := 60) k_M_firstBit_60 rfl (by first | exact ga G (by decide) rfl | assumption) (by omega) (by omega) (by first | assumption | (simp (disch := omega) only [pI_eq, pI_row, pI_col, va_up_self, va_up_ne, ne_eq, not_false_eq_true, hJN, h5, eo, et, hc1] <;> rfl) | rfl) ?_
              | refine T_iald (pc1 := 61) (pc := 60) k_M_firstBit_60 rfl (by first | exact ga G (by decide) rfl | assumption) (by assumption) ?_
              | refine T_iconst (v := (nI 1)) (pc1 := 62) (pc := 61) k_M_firstBit_61 rfl (by decide) ?_
              | with_reducible refine T_isubN (pc1 := 63) (pc := 62) k_M_firstBit_62 (by decide) (by omega) ?_
              | refine T_isub (pc1 := 63) (pc := 62) k_M_firstBit_62 rfl ?_
              | refine T_istore (pc1 := 65) (pc := 63) k_M_firstBit_63 rfl (Nat.le_of_ble_eq_true rfl) ?_
              | (with_reducible refine T_if_ltN (tgt := 144) (pc1 := 70) (pc := 67) k_M_firstBit_67 (by decide) (by decide) (by omega) ?_ <;> first | (exfalso; omega) | skip)
              | refine T_if_lt_t (tgt := 144) (pc := 67) k_M_firstBit_67 rfl (by decide) ?_
              | refine T_if_lt_f (tgt := 144) (pc1 := 70) (pc := 67) k_M_firstBit_67 rfl rfl (by decide) ?_
              | refine T_if_lt (tgt := 144) (pc1 := 70) (pc := 67) k_M_firstBit_67 rfl rfl (fun hc => ?_) (fun hc => ?_)
              | refine T_aload_n (pc1 := 71) (pc := 70) k_M_firstBit_70 rfl rfl ?_
              | refine T_aload_nN (pc1 := 71) (pc := 70) k_M_firstBit_70 rfl rfl ?_
              | refine T_getR (pc1 := 74) (pc := 71) k_M_firstBit_71 rfl f_M_22 rfl (by first | exact ga G (by decide) rfl | assumption) (by first | exact gr G (by decide) rfl | assumption) ?_
              | refine T_iload_n (pc1 := 75) (pc := 74) k_M_firstBit_74 rfl rfl ?_
              | refine T_ialdN (pc1 := 76) (pc := 75) k_M_firstBit_75 rfl (ga G (by decide) rfl) (by omega) (by omega) hat ?_
              | refine T_ldc (v := (nI 1000000)) (pc1 := 78) (pc := 76) k_M_firstBit_76 rfl c_M_163 ?_
              | (with_reducible refine T_icmp_geN (tgt := 144) (pc1 := 81) (pc := 78) k_M_firstBit_78 (by decide) (by decide) (by omega) (by omega) (fun hc => ?_) (fun hc => ?_) <;> first | (exfalso; omega) | skip)
              | refine T_icmp_ge_t (tgt := 144) (pc := 78) k_M_firstBit_78 rfl (by decide) ?_
              | refine T_icmp_ge_f (tgt := 144) (pc1 := 81) (pc := 78) k_M_firstBit_78 rfl rfl (by decide) ?_
              | refine T_icmp_ge (tgt := 144) (pc1 := 81) (pc := 78) k_M_firstBit_78 rfl rfl (fun hc => ?_) (fun hc => ?_)
              | refine T_aload_n (pc1 := 82) (pc := 81) k_M_firstBit_81 rfl rfl ?_
              | refine T_aload_nN (pc1 := 82) (pc := 81) k_M_firstBit_81 rfl rfl ?_
              | refine T_iload (pc1 := 84) (pc := 82) k_M_firstBit_82 rfl rfl ?_
              | refine T_iload_n (pc1 := 85) (pc := 84) k_M_firstBit_84 rfl rfl ?_
              | (refine T_cV (As := [_, _]) (d1 := 2) (pc1 := 88) (pc := 85) k_M_firstBit_85 rfl (by decide) (Nat.le_of_ble_eq_true rfl) rfl o_M_otherEnd l_M_168 rfl (by first | exact ga G (by decide) rfl | assumption) rfl (c_M_otherEnd G hJN ok (by omega) ha (fun v w1 w2 w3 => ?_)) <;> try dsimp only [psh])
              | refine T_istore (pc1 := 90) (pc := 88) k_M_firstBit_88 rfl (Nat.le_of_ble_eq_true rfl) ?_
              | refine T_iload (pc1 := 92) (pc := 90) k_M_firstBit_90 rfl rfl ?_
              | (with_reducible refine T_if_ltN (tgt := 134) (pc1 := 95) (pc := 92) k_M_firstBit_92 (by decide) (by decide) (by omega) ?_ <;> first | (exfalso; omega) | skip)
              | refine T_if_lt_t (tgt := 134) (pc := 92) k_M_firstBit_92 rfl (by decide) ?_
              | refine T_if_lt_f (tgt := 134) (pc1 := 95) (pc := 92) k_M_firstBit_92 rfl rfl (by decide) ?_
              | refine T_if_lt (tgt := 134) (pc1 := 95) (pc := 92) k_M_firstBit_92 rfl rfl (fun hc => ?_) (fun hc => ?_)
              | refine T_aload_n (pc1 := 96) (pc := 95) k_M_firstBit_95 rfl rfl ?_
              | refine T_aload_nN (pc1 := 96) (pc := 95) k_M_firstBit_95 rfl rfl ?_
              | refine T_getR (pc1 := 99) (pc := 96) k_M_firstBit_96 rfl f_M_19 rfl (by first | exact ga G (by decide) rfl | assumption) (by first | exact gr G (by decide) rfl | assumption) ?_
              | refine T_iload (pc1 := 101) (pc := 99) k_M_firstBit_99 rfl rfl ?_
              | refine T_ialdN (pc1 := 102) (pc := 101) k_M_firstBit_101 rfl (ga G (by decide) rfl) (by omega) (by omega) hcm ?_
              | (with_reducible refine T_if_leN (tgt := 134) (pc1 := 105) (pc := 102) k_M_firstBit_102 (by decide) (by decide) (by omega) (fun hc => ?_) (fun hc => ?_) <;> first | (exfalso; omega) | skip)
              | refine T_if_le_t (tgt := 134) (pc := 102) k_M_firstBit_102 rfl (by decide) ?_
              | refine T_if_le_f (tgt := 134) (pc1 := 105) (pc := 102) k_M_firstBit_102 rfl rfl (by decide) ?_
              | refine T_if_le (tgt := 134) (pc1 := 105) (pc := 102) k_M_firstBit_102 rfl rfl (fun hc => ?_) (fun hc => ?_)
              | refine T_aload_n (pc1 := 106) (pc := 105) k_M_firstBit_105 rfl rfl ?_
              | refine T_aload_nN (pc1 := 106) (pc := 105) k_M_firstBit_105 rfl rfl ?_
              | refine T_getR (pc1 := 109) (pc := 106) k_M_firstBit_106 rfl f_M_22 rfl (by first | exact ga G (by decide) rfl | assumption) (by first | exact gr G (by decide) rfl | assumption) ?_
              | refine T_iload (pc1 := 111) (pc := 109) k_M_firstBit_109 rfl rfl ?_
              | refine T_ialdN (pc1 := 112) (pc := 111) k_M_firstBit_111 rfl (ga G (by decide) rfl) (by omega) (by omega) (by first | exact v2 | exact v1) ?_
              | refine T_aload_n (pc1 := 113) (pc := 112) k_M_firstBit_112 rfl rfl ?_
              | refine T_aload_nN (pc1 := 113) (pc := 112) k_M_firstBit_112 rfl rfl ?_
              | refine T_getR (pc1 := 116) (pc := 113) k_M_firstBit_113 rfl f_M_19 rfl (by first | exact ga G (by decide) rfl | assumption) (by first | exact gr G (by decide) rfl | assumption) ?_
              | refine T_iload (pc1 := 118) (pc := 116) k_M_firstBit_116 rfl rfl ?_
              | refine T_ialdN (pc1 := 119) (pc := 118) k_M_firstBit_118 rfl (ga G (by decide) rfl) (by omega) (by omega) hcm ?_
              | with_reducible refine T_iaddN (pc1 := 120) (pc := 119) k_M_firstBit_119 (by decide) ?_
              | refine T_iadd (pc1 := 120) (pc := 119) k_M_firstBit_119 rfl ?_
              | refine T_aload_n (pc1 := 121) (pc := 120) k_M_firstBit_120 rfl rfl ?_
              | refine T_aload_nN (pc1 := 121) (pc := 120) k_M_firstBit_120 rfl rfl ?_
              | refine T_getR (pc1 := 124) (pc := 121) k_M_firstBit_121 rfl f_M_22 rfl (by first | exact ga G (by decide) rfl | assumption) (by first | exact gr G (by decide) rfl | assumption) ?_
              | refine T_iload_n (pc1 := 125) (pc := 124) k_M_firstBit_124 rfl rfl ?_
              | refine T_ialdN (pc1 := 126) (pc := 125) k_M_firstBit_125 rfl (ga G (by decide) rfl) (by omega) (by omega) hat ?_
              | (with_reducible refine T_icmp_neN (tgt := 134) (pc1 := 129) (pc := 126) k_M_firstBit_126 (by decide) (by decide) (by omega) (by omega) (fun hc => ?_) (fun hc => ?_) <;> first | (exfalso; omega) | skip)
              | refine T_icmp_ne_t (tgt := 134) (pc := 126) k_M_firstBit_126 rfl (by decide) ?_
              | refine T_icmp_ne_f (tgt := 134) (pc1 := 129) (pc := 126) k_M_firstBit_126 rfl rfl (by decide) ?_
              | refine T_icmp_ne (tgt := 134) (pc1 := 129) (pc := 126) k_M_firstBit_126 rfl rfl (fun hc => ?_) (fun hc => ?_)
              | refine T_iload (pc1 := 131) (pc := 129) k_M_firstBit_129 rfl rfl ?_
              | refine T_goto (tgt := 136) (pc := 131) k_M_firstBit_131 rfl ?_
              | refine T_iload (pc1 := 136) (pc := 134) k_M_firstBit_134 rfl rfl ?_
              | refine T_istore (pc1 := 138) (pc := 136) k_M_firstBit_136 rfl (Nat.le_of_ble_eq_true rfl) ?_
              | (refine T_iinc (v := (-1)) (pc1 := 141) (pc := 138) k_M_firstBit_138 rfl rfl (by decide) ?_; rw [hdec])
              | refine T_goto (tgt := 65) (pc := 141) k_M_firstBit_141 rfl ?_
              | refine T_iload (pc1 := 146) (pc := 144) k_M_firstBit_144 rfl rfl ?_
              | refine T_retI (pc := 146) k_M_firstBit_146 rfl (by first | rfl | decide | assumption) ?_)
            all_goals first
              | (rw [if_pos (fbP_iff.mpr ⟨by omega, by first | exact Or.inl ⟨by assumption, by omega⟩ | exact Or.inr ⟨by assumption, by assumption, by omega⟩⟩)] at ih; exact ih _)
              | (rw [if_neg (fun q => by rcases fbP_iff.mp q with ⟨q1, ⟨q2, q3⟩ | ⟨q2, q3, q4⟩⟩ <;> first | contradiction | omega)] at ih; exact ih _)
          · by_cases c2 : (ed N m).2 = at0
            · rw [w2 c1 c2]
              repeat' (first
                | refine T_iconst (v := (nI 0)) (pc1 := 1) (pc := 0) k_M_firstBit_0 rfl (by decide) ?_
                | refine T_istore (pc1 := 3) (pc := 1) k_M_firstBit_1 rfl (Nat.le_of_ble_eq_true rfl) ?_
                | refine T_iload (pc1 := 5) (pc := 3) k_M_firstBit_3 rfl rfl ?_
                | refine T_aload_n (pc1 := 6) (pc := 5) k_M_firstBit_5 rfl rfl ?_
                | refine T_aload_nN (pc1 := 6) (pc := 5) k_M_firstBit_5 rfl rfl ?_
                | refine T_getR (pc1 := 9) (pc := 6) k_M_firstBit_6 rfl f_M_9 rfl (by first | exact ga G (by decide) rfl | assumption) (by first | exact gr G (by decide) rfl | assumption) ?_
                | refine T_iconst (v := (nI 5)) (pc1 := 10) (pc := 9) k_M_firstBit_9 rfl (by decide) ?_
                | refine T_ialdN (pc1 := 11) (pc := 10) k_M_firstBit_10 rfl (by first | exact ga G (by decide) rfl | assumption) (by omega) (by omega) (by first | assumption | (simp (disch := omega) only [pI_eq, pI_row, pI_col, va_up_self, va_up_ne, ne_eq, not_false_eq_true, hJN, h5, eo, et, hc1] <;> rfl) | rfl) ?_
                | refine T_iald (pc1 := 11) (pc := 10) k_M_firstBit_10 rfl (by first | exact ga G (by decide) rfl | assumption) (by assumption) ?_
                | (with_reducible refine T_icmp_geN (tgt := 47) (pc1 := 14) (pc := 11) k_M_firstBit_11 (by decide) (by decide) (by omega) (by omega) (fun hc => ?_) (fun hc => ?_) <;> first | (exfalso; omega) | skip)
                | refine T_icmp_ge_t (tgt := 47) (pc := 11) k_M_firstBit_11 rfl (by decide) ?_
                | refine T_icmp_ge_f (tgt := 47) (pc1 := 14) (pc := 11) k_M_firstBit_11 rfl rfl (by decide) ?_
                | refine T_icmp_ge (tgt := 47) (pc1 := 14) (pc := 11) k_M_firstBit_11 rfl rfl (fun hc => ?_) (fun hc => ?_)
                | refine T_aload_n (pc1 := 15) (pc := 14) k_M_firstBit_14 rfl rfl ?_
                | refine T_aload_nN (pc1 := 15) (pc := 14) k_M_firstBit_14 rfl rfl ?_
                | refine T_getR (pc1 := 18) (pc := 15) k_M_firstBit_15 rfl f_M_19 rfl (by first | exact ga G (by decide) rfl | assumption) (by first | exact gr G (by decide) rfl | assumption) ?_
                | refine T_iload (pc1 := 20) (pc := 18) k_M_firstBit_18 rfl rfl ?_
                | refine T_iload_n (pc1 := 21) (pc := 20) k_M_firstBit_20 rfl rfl ?_
                | refine T_iload (pc1 := 23) (pc := 21) k_M_firstBit_21 rfl rfl ?_
                | refine T_ishr (pc1 := 24) (pc := 23) k_M_firstBit_23 rfl ?_
                | refine T_iconst (v := (nI 1)) (pc1 := 25) (pc := 24) k_M_firstBit_24 rfl (by decide) ?_
                | refine T_iand (pc1 := 26) (pc := 25) k_M_firstBit_25 rfl ?_
                | refine T_iconst (v := (nI 1)) (pc1 := 27) (pc := 26) k_M_firstBit_26 rfl (by decide) ?_
                | (with_reducible refine T_icmp_neN (tgt := 34) (pc1 := 30) (pc := 27) k_M_firstBit_27 (by decide) (by decide) (by omega) (by omega) (fun hc => ?_) (fun hc => ?_) <;> first | (exfalso; omega) | skip)
                | refine T_icmp_ne_t (tgt := 34) (pc := 27) k_M_firstBit_27 rfl (by decide) ?_
                | refine T_icmp_ne_f (tgt := 34) (pc1 := 30) (pc := 27) k_M_firstBit_27 rfl rfl (by decide) ?_
                | refine T_icmp_ne (tgt := 34) (pc1 := 30) (pc := 27) k_M_firstBit_27 rfl rfl (fun hc => ?_) (fun hc => ?_)
                | refine T_iconst (v := (nI 0)) (pc1 := 31) (pc := 30) k_M_firstBit_30 rfl (by decide) ?_
                | refine T_goto (tgt := 40) (pc := 31) k_M_firstBit_31 rfl ?_
                | refine T_aload_n (pc1 := 35) (pc := 34) k_M_firstBit_34 rfl rfl ?_
                | refine T_aload_nN (pc1 := 35) (pc := 34) k_M_firstBit_34 rfl rfl ?_
                | refine T_iload (pc1 := 37) (pc := 35) k_M_firstBit_35 rfl rfl ?_
                | (refine T_cV (As := [_]) (d1 := 3) (pc1 := 40) (pc := 37) k_M_firstBit_37 rfl (by decide) (Nat.le_of_ble_eq_true rfl) rfl o_M_thinks l_M_149 rfl (by first | exact ga G (by decide) rfl | assumption) rfl (c_M_thinks G (by assumption) (by assumption) (by assumption) (fun J hJ => ?_)) <;> try dsimp only [psh])
                | refine T_iastN (pc1 := 41) (pc := 40) k_M_firstBit_40 rfl (by first | exact ga G (by decide) rfl | assumption) (by omega) (by omega) ?_
                | refine T_iincN (b := 1) (pc1 := 44) (pc := 41) k_M_firstBit_41 rfl rfl (by decide) ?_
                | refine T_iinc (v := (nI 1)) (pc1 := 44) (pc := 41) k_M_firstBit_41 rfl rfl (by decide) ?_
                | refine T_goto (tgt := 3) (pc := 44) k_M_firstBit_44 rfl ?_
                | refine T_aload_n (pc1 := 48) (pc := 47) k_M_firstBit_47 rfl rfl ?_
                | refine T_aload_nN (pc1 := 48) (pc := 47) k_M_firstBit_47 rfl rfl ?_
                | refine T_iload_n (pc1 := 49) (pc := 48) k_M_firstBit_48 rfl rfl ?_
                | refine T_iconst (v := (-1)) (pc1 := 53) (pc := 52) k_M_firstBit_52 rfl (by decide) ?_
                | refine T_istore (pc1 := 55) (pc := 53) k_M_firstBit_53 rfl (Nat.le_of_ble_eq_true rfl) ?_
                | refine T_aload_n (pc1 := 56) (pc := 55) k_M_firstBit_55 rfl rfl ?_
                | refine T_aload_nN (pc1 := 56) (pc := 55) k_M_firstBit_55 rfl rfl ?_
                | refine T_getR (pc1 := 59) (pc := 56) k_M_firstBit_56 rfl f_M_9 rfl (by first | exact ga G (by decide) rfl | assumption) (by first | exact gr G (by decide) rfl | assumption) ?_
                | refine T_iconst (v := (nI 5)) (pc1 := 60) (pc := 59) k_M_firstBit_59 rfl (by decide) ?_
                | refine T_ialdN (pc1 := 61) (pc := 60) k_M_firstBit_60 rfl (by first | exact ga G (by decide) rfl | assumption) (by omega) (by omega) (by first | assumption | (simp (disch := omega) only [pI_eq, pI_row, pI_col, va_up_self, va_up_ne, ne_eq, not_false_eq_true, hJN, h5, eo, et, hc1] <;> rfl) | rfl) ?_
                | refine T_iald (pc1 := 61) (pc := 60) k_M_firstBit_60 rfl (by first | exact ga G (by decide) rfl | assumption) (by assumption) ?_
                | refine T_iconst (v := (nI 1)) (pc1 := 62) (pc := 61) k_M_firstBit_61 rfl (by decide) ?_
                | with_reducible refine T_isubN (pc1 := 63) (pc := 62) k_M_firstBit_62 (by decide) (by omega) ?_
                | refine T_isub (pc1 := 63) (pc := 62) k_M_firstBit_62 rfl ?_
                | refine T_istore (pc1 := 65) (pc := 63) k_M_firstBit_63 rfl (Nat.le_of_ble_eq_true rfl) ?_
                | (with_reducible refine T_if_ltN (tgt := 144) (pc1 := 70) (pc := 67) k_M_firstBit_67 (by decide) (by decide) (by omega) ?_ <;> first | (exfalso; omega) | skip)
                | refine T_if_lt_t (tgt := 144) (pc := 67) k_M_firstBit_67 rfl (by decide) ?_
                | refine T_if_lt_f (tgt := 144) (pc1 := 70) (pc := 67) k_M_firstBit_67 rfl rfl (by decide) ?_
                | refine T_if_lt (tgt := 144) (pc1 := 70) (pc := 67) k_M_firstBit_67 rfl rfl (fun hc => ?_) (fun hc => ?_)
                | refine T_aload_n (pc1 := 71) (pc := 70) k_M_firstBit_70 rfl rfl ?_
                | refine T_aload_nN (pc1 := 71) (pc := 70) k_M_firstBit_70 rfl rfl ?_
                | refine T_getR (pc1 := 74) (pc := 71) k_M_firstBit_71 rfl f_M_22 rfl (by first | exact ga G (by decide) rfl | assumption) (by first | exact gr G (by decide) rfl | assumption) ?_
                | refine T_iload_n (pc1 := 75) (pc := 74) k_M_firstBit_74 rfl rfl ?_
                | refine T_ialdN (pc1 := 76) (pc := 75) k_M_firstBit_75 rfl (ga G (by decide) rfl) (by omega) (by omega) hat ?_
                | refine T_ldc (v := (nI 1000000)) (pc1 := 78) (pc := 76) k_M_firstBit_76 rfl c_M_163 ?_
                | (with_reducible refine T_icmp_geN (tgt := 144) (pc1 := 81) (pc := 78) k_M_firstBit_78 (by decide) (by decide) (by omega) (by omega) (fun hc => ?_) (fun hc => ?_) <;> first | (exfalso; omega) | skip)
                | refine T_icmp_ge_t (tgt := 144) (pc := 78) k_M_firstBit_78 rfl (by decide) ?_
                | refine T_icmp_ge_f (tgt := 144) (pc1 := 81) (pc := 78) k_M_firstBit_78 rfl rfl (by decide) ?_
                | refine T_icmp_ge (tgt := 144) (pc1 := 81) (pc := 78) k_M_firstBit_78 rfl rfl (fun hc => ?_) (fun hc => ?_)
                | refine T_aload_n (pc1 := 82) (pc := 81) k_M_firstBit_81 rfl rfl ?_
                | refine T_aload_nN (pc1 := 82) (pc := 81) k_M_firstBit_81 rfl rfl ?_
                | refine T_iload (pc1 := 84) (pc := 82) k_M_firstBit_82 rfl rfl ?_
                | refine T_iload_n (pc1 := 85) (pc := 84) k_M_firstBit_84 rfl rfl ?_
                | (refine T_cV (As := [_, _]) (d1 := 2) (pc1 := 88) (pc := 85) k_M_firstBit_85 rfl (by decide) (Nat.le_of_ble_eq_true rfl) rfl o_M_otherEnd l_M_168 rfl (by first | exact ga G (by decide) rfl | assumption) rfl (c_M_otherEnd G hJN ok (by omega) ha (fun v w1 w2 w3 => ?_)) <;> try dsimp only [psh])
                | refine T_istore (pc1 := 90) (pc := 88) k_M_firstBit_88 rfl (Nat.le_of_ble_eq_true rfl) ?_
                | refine T_iload (pc1 := 92) (pc := 90) k_M_firstBit_90 rfl rfl ?_
                | (with_reducible refine T_if_ltN (tgt := 134) (pc1 := 95) (pc := 92) k_M_firstBit_92 (by decide) (by decide) (by omega) ?_ <;> first | (exfalso; omega) | skip)
                | refine T_if_lt_t (tgt := 134) (pc := 92) k_M_firstBit_92 rfl (by decide) ?_
                | refine T_if_lt_f (tgt := 134) (pc1 := 95) (pc := 92) k_M_firstBit_92 rfl rfl (by decide) ?_
                | refine T_if_lt (tgt := 134) (pc1 := 95) (pc := 92) k_M_firstBit_92 rfl rfl (fun hc => ?_) (fun hc => ?_)
                | refine T_aload_n (pc1 := 96) (pc := 95) k_M_firstBit_95 rfl rfl ?_
                | refine T_aload_nN (pc1 := 96) (pc := 95) k_M_firstBit_95 rfl rfl ?_
                | refine T_getR (pc1 := 99) (pc := 96) k_M_firstBit_96 rfl f_M_19 rfl (by first | exact ga G (by decide) rfl | assumption) (by first | exact gr G (by decide) rfl | assumption) ?_
                | refine T_iload (pc1 := 101) (pc := 99) k_M_firstBit_99 rfl rfl ?_
                | refine T_ialdN (pc1 := 102) (pc := 101) k_M_firstBit_101 rfl (ga G (by decide) rfl) (by omega) (by omega) hcm ?_
                | (with_reducible refine T_if_leN (tgt := 134) (pc1 := 105) (pc := 102) k_M_firstBit_102 (by decide) (by decide) (by omega) (fun hc => ?_) (fun hc => ?_) <;> first | (exfalso; omega) | skip)
                | refine T_if_le_t (tgt := 134) (pc := 102) k_M_firstBit_102 rfl (by decide) ?_
                | refine T_if_le_f (tgt := 134) (pc1 := 105) (pc := 102) k_M_firstBit_102 rfl rfl (by decide) ?_
                | refine T_if_le (tgt := 134) (pc1 := 105) (pc := 102) k_M_firstBit_102 rfl rfl (fun hc => ?_) (fun hc => ?_)
                | refine T_aload_n (pc1 := 106) (pc := 105) k_M_firstBit_105 rfl rfl ?_
                | refine T_aload_nN (pc1 := 106) (pc := 105) k_M_firstBit_105 rfl rfl ?_
                | refine T_getR (pc1 := 109) (pc := 106) k_M_firstBit_106 rfl f_M_22 rfl (by first | exact ga G (by decide) rfl | assumption) (by first | exact gr G (by decide) rfl | assumption) ?_
                | refine T_iload (pc1 := 111) (pc := 109) k_M_firstBit_109 rfl rfl ?_
                | refine T_ialdN (pc1 := 112) (pc := 111) k_M_firstBit_111 rfl (ga G (by decide) rfl) (by omega) (by omega) (by first | exact v2 | exact v1) ?_
                | refine T_aload_n (pc1 := 113) (pc := 112) k_M_firstBit_112 rfl rfl ?_
                | refine T_aload_nN (pc1 := 113) (pc := 112) k_M_firstBit_112 rfl rfl ?_
                | refine T_getR (pc1 := 116) (pc := 113) k_M_firstBit_113 rfl f_M_19 rfl (by first | exact ga G (by decide) rfl | assumption) (by first | exact gr G (by decide) rfl | assumption) ?_
                | refine T_iload (pc1 := 118) (pc := 116) k_M_firstBit_116 rfl rfl ?_
                | refine T_ialdN (pc1 := 119) (pc := 118) k_M_firstBit_118 rfl (ga G (by decide) rfl) (by omega) (by omega) hcm ?_
                | with_reducible refine T_iaddN (pc1 := 120) (pc := 119) k_M_firstBit_119 (by decide) ?_
                | refine T_iadd (pc1 := 120) (pc := 119) k_M_firstBit_119 rfl ?_
                | refine T_aload_n (pc1 := 121) (pc := 120) k_M_firstBit_120 rfl rfl ?_
                | refine T_aload_nN (pc1 := 121) (pc := 120) k_M_firstBit_120 rfl rfl ?_
                | refine T_getR (pc1 := 124) (pc := 121) k_M_firstBit_121 rfl f_M_22 rfl (by first | exact ga G (by decide) rfl | assumption) (by first | exact gr G (by decide) rfl | assumption) ?_
                | refine T_iload_n (pc1 := 125) (pc := 124) k_M_firstBit_124 rfl rfl ?_
                | refine T_ialdN (pc1 := 126) (pc := 125) k_M_firstBit_125 rfl (ga G (by decide) rfl) (by omega) (by omega) hat ?_
                | (with_reducible refine T_icmp_neN (tgt := 134) (pc1 := 129) (pc := 126) k_M_firstBit_126 (by decide) (by decide) (by omega) (by omega) (fun hc => ?_) (fun hc => ?_) <;> first | (exfalso; omega) | skip)
                | refine T_icmp_ne_t (tgt := 134) (pc := 126) k_M_firstBit_126 rfl (by decide) ?_
                | refine T_icmp_ne_f (tgt := 134) (pc1 := 129) (pc := 126) k_M_firstBit_126 rfl rfl (by decide) ?_
                | refine T_icmp_ne (tgt := 134) (pc1 := 129) (pc := 126) k_M_firstBit_126 rfl rfl (fun hc => ?_) (fun hc => ?_)
                | refine T_iload (pc1 := 131) (pc := 129) k_M_firstBit_129 rfl rfl ?_
                | refine T_goto (tgt := 136) (pc := 131) k_M_firstBit_131 rfl ?_
                | refine T_iload (pc1 := 136) (pc := 134) k_M_firstBit_134 rfl rfl ?_
                | refine T_istore (pc1 := 138) (pc := 136) k_M_firstBit_136 rfl (Nat.le_of_ble_eq_true rfl) ?_
                | (refine T_iinc (v := (-1)) (pc1 := 141) (pc := 138) k_M_firstBit_138 rfl rfl (by decide) ?_; rw [hdec])
                | refine T_goto (tgt := 65) (pc := 141) k_M_firstBit_141 rfl ?_
                | refine T_iload (pc1 := 146) (pc := 144) k_M_firstBit_144 rfl rfl ?_
                | refine T_retI (pc := 146) k_M_firstBit_146 rfl (by first | rfl | decide | assumption) ?_)
              all_goals first
                | (rw [if_pos (fbP_iff.mpr ⟨by omega, by first | exact Or.inl ⟨by assumption, by omega⟩ | exact Or.inr ⟨by assumption, by assumption, by omega⟩⟩)] at ih; exact ih _)
                | (rw [if_neg (fun q => by rcases fbP_iff.mp q with ⟨q1, ⟨q2, q3⟩ | ⟨q2, q3, q4⟩⟩ <;> first | contradiction | omega)] at ih; exact ih _)
            · rw [w3 c1 c2]
              repeat' (first
                | refine T_iconst (v := (nI 0)) (pc1 := 1) (pc := 0) k_M_firstBit_0 rfl (by decide) ?_
                | refine T_istore (pc1 := 3) (pc := 1) k_M_firstBit_1 rfl (Nat.le_of_ble_eq_true rfl) ?_
                | refine T_iload (pc1 := 5) (pc := 3) k_M_firstBit_3 rfl rfl ?_
                | refine T_aload_n (pc1 := 6) (pc := 5) k_M_firstBit_5 rfl rfl ?_
                | refine T_aload_nN (pc1 := 6) (pc := 5) k_M_firstBit_5 rfl rfl ?_
                | refine T_getR (pc1 := 9) (pc := 6) k_M_firstBit_6 rfl f_M_9 rfl (by first | exact ga G (by decide) rfl | assumption) (by first | exact gr G (by decide) rfl | assumption) ?_
                | refine T_iconst (v := (nI 5)) (pc1 := 10) (pc := 9) k_M_firstBit_9 rfl (by decide) ?_
                | refine T_ialdN (pc1 := 11) (pc := 10) k_M_firstBit_10 rfl (by first | exact ga G (by decide) rfl | assumption) (by omega) (by omega) (by first | assumption | (simp (disch := omega) only [pI_eq, pI_row, pI_col, va_up_self, va_up_ne, ne_eq, not_false_eq_true, hJN, h5, eo, et, hc1] <;> rfl) | rfl) ?_
                | refine T_iald (pc1 := 11) (pc := 10) k_M_firstBit_10 rfl (by first | exact ga G (by decide) rfl | assumption) (by assumption) ?_
                | (with_reducible refine T_icmp_geN (tgt := 47) (pc1 := 14) (pc := 11) k_M_firstBit_11 (by decide) (by decide) (by omega) (by omega) (fun hc => ?_) (fun hc => ?_) <;> first | (exfalso; omega) | skip)
                | refine T_icmp_ge_t (tgt := 47) (pc := 11) k_M_firstBit_11 rfl (by decide) ?_
                | refine T_icmp_ge_f (tgt := 47) (pc1 := 14) (pc := 11) k_M_firstBit_11 rfl rfl (by decide) ?_
                | refine T_icmp_ge (tgt := 47) (pc1 := 14) (pc := 11) k_M_firstBit_11 rfl rfl (fun hc => ?_) (fun hc => ?_)
                | refine T_aload_n (pc1 := 15) (pc := 14) k_M_firstBit_14 rfl rfl ?_
                | refine T_aload_nN (pc1 := 15) (pc := 14) k_M_firstBit_14 rfl rfl ?_
                | refine T_getR (pc1 := 18) (pc := 15) k_M_firstBit_15 rfl f_M_19 rfl (by first | exact ga G (by decide) rfl | assumption) (by first | exact gr G (by decide) rfl | assumption) ?_
                | refine T_iload (pc1 := 20) (pc := 18) k_M_firstBit_18 rfl rfl ?_
                | refine T_iload_n (pc1 := 21) (pc := 20) k_M_firstBit_20 rfl rfl ?_
                | refine T_iload (pc1 := 23) (pc := 21) k_M_firstBit_21 rfl rfl ?_
                | refine T_ishr (pc1 := 24) (pc := 23) k_M_firstBit_23 rfl ?_
                | refine T_iconst (v := (nI 1)) (pc1 := 25) (pc := 24) k_M_firstBit_24 rfl (by decide) ?_
                | refine T_iand (pc1 := 26) (pc := 25) k_M_firstBit_25 rfl ?_
                | refine T_iconst (v := (nI 1)) (pc1 := 27) (pc := 26) k_M_firstBit_26 rfl (by decide) ?_
                | (with_reducible refine T_icmp_neN (tgt := 34) (pc1 := 30) (pc := 27) k_M_firstBit_27 (by decide) (by decide) (by omega) (by omega) (fun hc => ?_) (fun hc => ?_) <;> first | (exfalso; omega) | skip)
                | refine T_icmp_ne_t (tgt := 34) (pc := 27) k_M_firstBit_27 rfl (by decide) ?_
                | refine T_icmp_ne_f (tgt := 34) (pc1 := 30) (pc := 27) k_M_firstBit_27 rfl rfl (by decide) ?_
                | refine T_icmp_ne (tgt := 34) (pc1 := 30) (pc := 27) k_M_firstBit_27 rfl rfl (fun hc => ?_) (fun hc => ?_)
                | refine T_iconst (v := (nI 0)) (pc1 := 31) (pc := 30) k_M_firstBit_30 rfl (by decide) ?_
                | refine T_goto (tgt := 40) (pc := 31) k_M_firstBit_31 rfl ?_
                | refine T_aload_n (pc1 := 35) (pc := 34) k_M_firstBit_34 rfl rfl ?_
                | refine T_aload_nN (pc1 := 35) (pc := 34) k_M_firstBit_34 rfl rfl ?_
                | refine T_iload (pc1 := 37) (pc := 35) k_M_firstBit_35 rfl rfl ?_
                | (refine T_cV (As := [_]) (d1 := 3) (pc1 := 40) (pc := 37) k_M_firstBit_37 rfl (by decide) (Nat.le_of_ble_eq_true rfl) rfl o_M_thinks l_M_149 rfl (by first | exact ga G (by decide) rfl | assumption) rfl (c_M_thinks G (by assumption) (by assumption) (by assumption) (fun J hJ => ?_)) <;> try dsimp only [psh])
                | refine T_iastN (pc1 := 41) (pc := 40) k_M_firstBit_40 rfl (by first | exact ga G (by decide) rfl | assumption) (by omega) (by omega) ?_
                | refine T_iincN (b := 1) (pc1 := 44) (pc := 41) k_M_firstBit_41 rfl rfl (by decide) ?_
                | refine T_iinc (v := (nI 1)) (pc1 := 44) (pc := 41) k_M_firstBit_41 rfl rfl (by decide) ?_
                | refine T_goto (tgt := 3) (pc := 44) k_M_firstBit_44 rfl ?_
                | refine T_aload_n (pc1 := 48) (pc := 47) k_M_firstBit_47 rfl rfl ?_
                | refine T_aload_nN (pc1 := 48) (pc := 47) k_M_firstBit_47 rfl rfl ?_
                | refine T_iload_n (pc1 := 49) (pc := 48) k_M_firstBit_48 rfl rfl ?_
                | refine T_iconst (v := (-1)) (pc1 := 53) (pc := 52) k_M_firstBit_52 rfl (by decide) ?_
                | refine T_istore (pc1 := 55) (pc := 53) k_M_firstBit_53 rfl (Nat.le_of_ble_eq_true rfl) ?_
                | refine T_aload_n (pc1 := 56) (pc := 55) k_M_firstBit_55 rfl rfl ?_
                | refine T_aload_nN (pc1 := 56) (pc := 55) k_M_firstBit_55 rfl rfl ?_
                | refine T_getR (pc1 := 59) (pc := 56) k_M_firstBit_56 rfl f_M_9 rfl (by first | exact ga G (by decide) rfl | assumption) (by first | exact gr G (by decide) rfl | assumption) ?_
                | refine T_iconst (v := (nI 5)) (pc1 := 60) (pc := 59) k_M_firstBit_59 rfl (by decide) ?_
                | refine T_ialdN (pc1 := 61) (pc := 60) k_M_firstBit_60 rfl (by first | exact ga G (by decide) rfl | assumption) (by omega) (by omega) (by first | assumption | (simp (disch := omega) only [pI_eq, pI_row, pI_col, va_up_self, va_up_ne, ne_eq, not_false_eq_true, hJN, h5, eo, et, hc1] <;> rfl) | rfl) ?_
                | refine T_iald (pc1 := 61) (pc := 60) k_M_firstBit_60 rfl (by first | exact ga G (by decide) rfl | assumption) (by assumption) ?_
                | refine T_iconst (v := (nI 1)) (pc1 := 62) (pc := 61) k_M_firstBit_61 rfl (by decide) ?_
                | with_reducible refine T_isubN (pc1 := 63) (pc := 62) k_M_firstBit_62 (by decide) (by omega) ?_
                | refine T_isub (pc1 := 63) (pc := 62) k_M_firstBit_62 rfl ?_
                | refine T_istore (pc1 := 65) (pc := 63) k_M_firstBit_63 rfl (Nat.le_of_ble_eq_true rfl) ?_
                | (with_reducible refine T_if_ltN (tgt := 144) (pc1 := 70) (pc := 67) k_M_firstBit_67 (by decide) (by decide) (by omega) ?_ <;> first | (exfalso; omega) | skip)
                | refine T_if_lt_t (tgt := 144) (pc := 67) k_M_firstBit_67 rfl (by decide) ?_
                | refine T_if_lt_f (tgt := 144) (pc1 := 70) (pc := 67) k_M_firstBit_67 rfl rfl (by decide) ?_
                | refine T_if_lt (tgt := 144) (pc1 := 70) (pc := 67) k_M_firstBit_67 rfl rfl (fun hc => ?_) (fun hc => ?_)
                | refine T_aload_n (pc1 := 71) (pc := 70) k_M_firstBit_70 rfl rfl ?_
                | refine T_aload_nN (pc1 := 71) (pc := 70) k_M_firstBit_70 rfl rfl ?_
                | refine T_getR (pc1 := 74) (pc := 71) k_M_firstBit_71 rfl f_M_22 rfl (by first | exact ga G (by decide) rfl | assumption) (by first | exact gr G (by decide) rfl | assumption) ?_
                | refine T_iload_n (pc1 := 75) (pc := 74) k_M_firstBit_74 rfl rfl ?_
                | refine T_ialdN (pc1 := 76) (pc := 75) k_M_firstBit_75 rfl (ga G (by decide) rfl) (by omega) (by omega) hat ?_
                | refine T_ldc (v := (nI 1000000)) (pc1 := 78) (pc := 76) k_M_firstBit_76 rfl c_M_163 ?_
                | (with_reducible refine T_icmp_geN (tgt := 144) (pc1 := 81) (pc := 78) k_M_firstBit_78 (by decide) (by decide) (by omega) (by omega) (fun hc => ?_) (fun hc => ?_) <;> first | (exfalso; omega) | skip)
                | refine T_icmp_ge_t (tgt := 144) (pc := 78) k_M_firstBit_78 rfl (by decide) ?_
                | refine T_icmp_ge_f (tgt := 144) (pc1 := 81) (pc := 78) k_M_firstBit_78 rfl rfl (by decide) ?_
                | refine T_icmp_ge (tgt := 144) (pc1 := 81) (pc := 78) k_M_firstBit_78 rfl rfl (fun hc => ?_) (fun hc => ?_)
                | refine T_aload_n (pc1 := 82) (pc := 81) k_M_firstBit_81 rfl rfl ?_
                | refine T_aload_nN (pc1 := 82) (pc := 81) k_M_firstBit_81 rfl rfl ?_
                | refine T_iload (pc1 := 84) (pc := 82) k_M_firstBit_82 rfl rfl ?_
                | refine T_iload_n (pc1 := 85) (pc := 84) k_M_firstBit_84 rfl rfl ?_
                | (refine T_cV (As := [_, _]) (d1 := 2) (pc1 := 88) (pc := 85) k_M_firstBit_85 rfl (by decide) (Nat.le_of_ble_eq_true rfl) rfl o_M_otherEnd l_M_168 rfl (by first | exact ga G (by decide) rfl | assumption) rfl (c_M_otherEnd G hJN ok (by omega) ha (fun v w1 w2 w3 => ?_)) <;> try dsimp only [psh])
                | refine T_istore (pc1 := 90) (pc := 88) k_M_firstBit_88 rfl (Nat.le_of_ble_eq_true rfl) ?_
                | refine T_iload (pc1 := 92) (pc := 90) k_M_firstBit_90 rfl rfl ?_
                | (with_reducible refine T_if_ltN (tgt := 134) (pc1 := 95) (pc := 92) k_M_firstBit_92 (by decide) (by decide) (by omega) ?_ <;> first | (exfalso; omega) | skip)
                | refine T_if_lt_t (tgt := 134) (pc := 92) k_M_firstBit_92 rfl (by decide) ?_
                | refine T_if_lt_f (tgt := 134) (pc1 := 95) (pc := 92) k_M_firstBit_92 rfl rfl (by decide) ?_
                | refine T_if_lt (tgt := 134) (pc1 := 95) (pc := 92) k_M_firstBit_92 rfl rfl (fun hc => ?_) (fun hc => ?_)
                | refine T_aload_n (pc1 := 96) (pc := 95) k_M_firstBit_95 rfl rfl ?_
                | refine T_aload_nN (pc1 := 96) (pc := 95) k_M_firstBit_95 rfl rfl ?_
                | refine T_getR (pc1 := 99) (pc := 96) k_M_firstBit_96 rfl f_M_19 rfl (by first | exact ga G (by decide) rfl | assumption) (by first | exact gr G (by decide) rfl | assumption) ?_
                | refine T_iload (pc1 := 101) (pc := 99) k_M_firstBit_99 rfl rfl ?_
                | refine T_ialdN (pc1 := 102) (pc := 101) k_M_firstBit_101 rfl (ga G (by decide) rfl) (by omega) (by omega) hcm ?_
                | (with_reducible refine T_if_leN (tgt := 134) (pc1 := 105) (pc := 102) k_M_firstBit_102 (by decide) (by decide) (by omega) (fun hc => ?_) (fun hc => ?_) <;> first | (exfalso; omega) | skip)
                | refine T_if_le_t (tgt := 134) (pc := 102) k_M_firstBit_102 rfl (by decide) ?_
                | refine T_if_le_f (tgt := 134) (pc1 := 105) (pc := 102) k_M_firstBit_102 rfl rfl (by decide) ?_
                | refine T_if_le (tgt := 134) (pc1 := 105) (pc := 102) k_M_firstBit_102 rfl rfl (fun hc => ?_) (fun hc => ?_)
                | refine T_aload_n (pc1 := 106) (pc := 105) k_M_firstBit_105 rfl rfl ?_
                | refine T_aload_nN (pc1 := 106) (pc := 105) k_M_firstBit_105 rfl rfl ?_
                | refine T_getR (pc1 := 109) (pc := 106) k_M_firstBit_106 rfl f_M_22 rfl (by first | exact ga G (by decide) rfl | assumption) (by first | exact gr G (by decide) rfl | assumption) ?_
                | refine T_iload (pc1 := 111) (pc := 109) k_M_firstBit_109 rfl rfl ?_
                | refine T_ialdN (pc1 := 112) (pc := 111) k_M_firstBit_111 rfl (ga G (by decide) rfl) (by omega) (by omega) (by first | exact v2 | exact v1) ?_
                | refine T_aload_n (pc1 := 113) (pc := 112) k_M_firstBit_112 rfl rfl ?_
                | refine T_aload_nN (pc1 := 113) (pc := 112) k_M_firstBit_112 rfl rfl ?_
                | refine T_getR (pc1 := 116) (pc := 113) k_M_firstBit_113 rfl f_M_19 rfl (by first | exact ga G (by decide) rfl | assumption) (by first | exact gr G (by decide) rfl | assumption) ?_
                | refine T_iload (pc1 := 118) (pc := 116) k_M_firstBit_116 rfl rfl ?_
                | refine T_ialdN (pc1 := 119) (pc := 118) k_M_firstBit_118 rfl (ga G (by decide) rfl) (by omega) (by omega) hcm ?_
                | with_reducible refine T_iaddN (pc1 := 120) (pc := 119) k_M_firstBit_119 (by decide) ?_
                | refine T_iadd (pc1 := 120) (pc := 119) k_M_firstBit_119 rfl ?_
                | refine T_aload_n (pc1 := 121) (pc := 120) k_M_firstBit_120 rfl rfl ?_
                | refine T_aload_nN (pc1 := 121) (pc := 120) k_M_firstBit_120 rfl rfl ?_
                | refine T_getR (pc1 := 124) (pc := 121) k_M_firstBit_121 rfl f_M_22 rfl (by first | exact ga G (by decide) rfl | assumption) (by first | exact gr G (by decide) rfl | assumption) ?_
                | refine T_iload_n (pc1 := 125) (pc := 124) k_M_firstBit_124 rfl rfl ?_
                | refine T_ialdN (pc1 := 126) (pc := 125) k_M_firstBit_125 rfl (ga G (by decide) rfl) (by omega) (by omega) hat ?_
                | (with_reducible refine T_icmp_neN (tgt := 134) (pc1 := 129) (pc := 126) k_M_firstBit_126 (by decide) (by decide) (by omega) (by omega) (fun hc => ?_) (fun hc => ?_) <;> first | (exfalso; omega) | skip)
                | refine T_icmp_ne_t (tgt := 134) (pc := 126) k_M_firstBit_126 rfl (by decide) ?_
                | refine T_icmp_ne_f (tgt := 134) (pc1 := 129) (pc := 126) k_M_firstBit_126 rfl rfl (by decide) ?_
                | refine T_icmp_ne (tgt := 134) (pc1 := 129) (pc := 126) k_M_firstBit_126 rfl rfl (fun hc => ?_) (fun hc => ?_)
                | refine T_iload (pc1 := 131) (pc := 129) k_M_firstBit_129 rfl rfl ?_
                | refine T_goto (tgt := 136) (pc := 131) k_M_firstBit_131 rfl ?_
                | refine T_iload (pc1 := 136) (pc := 134) k_M_firstBit_134 rfl rfl ?_
                | refine T_istore (pc1 := 138) (pc := 136) k_M_firstBit_136 rfl (Nat.le_of_ble_eq_true rfl) ?_
                | (refine T_iinc (v := (-1)) (pc1 := 141) (pc := 138) k_M_firstBit_138 rfl rfl (by decide) ?_; rw [hdec])
                | refine T_goto (tgt := 65) (pc := 141) k_M_firstBit_141 rfl ?_
                | refine T_iload (pc1 := 146) (pc := 144) k_M_firstBit_144 rfl rfl ?_
                | refine T_retI (pc := 146) k_M_firstBit_146 rfl (by first | rfl | decide | assumption) ?_)
              all_goals first
                | (rw [if_pos (fbP_iff.mpr ⟨by omega, by first | exact Or.inl ⟨by assumption, by omega⟩ | exact Or.inr ⟨by assumption, by assumption, by omega⟩⟩)] at ih; exact ih _)
                | (rw [if_neg (fun q => by rcases fbP_iff.mp q with ⟨q1, ⟨q2, q3⟩ | ⟨q2, q3, q4⟩⟩ <;> first | contradiction | omega)] at ih; exact ih _)
      repeat' (first
        | refine T_iconst (v := (nI 0)) (pc1 := 1) (pc := 0) k_M_firstBit_0 rfl (by decide) ?_
        | refine T_istore (pc1 := 3) (pc := 1) k_M_firstBit_1 rfl (Nat.le_of_ble_eq_true rfl) ?_
        | refine T_iload (pc1 := 5) (pc := 3) k_M_firstBit_3 rfl rfl ?_
        | refine T_aload_n (pc1 := 6) (pc := 5) k_M_firstBit_5 rfl rfl ?_
        | refine T_aload_nN (pc1 := 6) (pc := 5) k_M_firstBit_5 rfl rfl ?_
        | refine T_getR (pc1 := 9) (pc := 6) k_M_firstBit_6 rfl f_M_9 rfl (by first | exact ga G (by decide) rfl | assumption) (by first | exact gr G (by decide) rfl | assumption) ?_
        | refine T_iconst (v := (nI 5)) (pc1 := 10) (pc := 9) k_M_firstBit_9 rfl (by decide) ?_
        | refine T_ialdN (pc1 := 11) (pc := 10) k_M_firstBit_10 rfl (by first | exact ga G (by decide) rfl | assumption) (by omega) (by omega) (by first | assumption | (simp (disch := omega) only [pI_eq, pI_row, pI_col, va_up_self, va_up_ne, ne_eq, not_false_eq_true, hJN, h5] <;> rfl) | rfl) ?_
        | refine T_iald (pc1 := 11) (pc := 10) k_M_firstBit_10 rfl (by first | exact ga G (by decide) rfl | assumption) (by assumption) ?_
        | (with_reducible refine T_icmp_geN (tgt := 47) (pc1 := 14) (pc := 11) k_M_firstBit_11 (by decide) (by decide) (by omega) (by omega) (fun hc => ?_) (fun hc => ?_) <;> first | (exfalso; omega) | skip)
        | refine T_icmp_ge_t (tgt := 47) (pc := 11) k_M_firstBit_11 rfl (by decide) ?_
        | refine T_icmp_ge_f (tgt := 47) (pc1 := 14) (pc := 11) k_M_firstBit_11 rfl rfl (by decide) ?_
        | refine T_icmp_ge (tgt := 47) (pc1 := 14) (pc := 11) k_M_firstBit_11 rfl rfl (fun hc => ?_) (fun hc => ?_)
        | refine T_aload_n (pc1 := 15) (pc := 14) k_M_firstBit_14 rfl rfl ?_
        | refine T_aload_nN (pc1 := 15) (pc := 14) k_M_firstBit_14 rfl rfl ?_
        | refine T_getR (pc1 := 18) (pc := 15) k_M_firstBit_15 rfl f_M_19 rfl (by first | exact ga G (by decide) rfl | assumption) (by first | exact gr G (by decide) rfl | assumption) ?_
        | refine T_iload (pc1 := 20) (pc := 18) k_M_firstBit_18 rfl rfl ?_
        | refine T_iload_n (pc1 := 21) (pc := 20) k_M_firstBit_20 rfl rfl ?_
        | refine T_iload (pc1 := 23) (pc := 21) k_M_firstBit_21 rfl rfl ?_
        | refine T_ishr (pc1 := 24) (pc := 23) k_M_firstBit_23 rfl ?_
        | refine T_iconst (v := (nI 1)) (pc1 := 25) (pc := 24) k_M_firstBit_24 rfl (by decide) ?_
        | refine T_iand (pc1 := 26) (pc := 25) k_M_firstBit_25 rfl ?_
        | refine T_iconst (v := (nI 1)) (pc1 := 27) (pc := 26) k_M_firstBit_26 rfl (by decide) ?_
        | (with_reducible refine T_icmp_neN (tgt := 34) (pc1 := 30) (pc := 27) k_M_firstBit_27 (by decide) (by decide) (by omega) (by omega) (fun hc => ?_) (fun hc => ?_) <;> first | (exfalso; omega) | skip)
        | refine T_icmp_ne_t (tgt := 34) (pc := 27) k_M_firstBit_27 rfl (by decide) ?_
        | refine T_icmp_ne_f (tgt := 34) (pc1 := 30) (pc := 27) k_M_firstBit_27 rfl rfl (by decide) ?_
        | refine T_icmp_ne (tgt := 34) (pc1 := 30) (pc := 27) k_M_firstBit_27 rfl rfl (fun hc => ?_) (fun hc => ?_)
        | refine T_iconst (v := (nI 0)) (pc1 := 31) (pc := 30) k_M_firstBit_30 rfl (by decide) ?_
        | refine T_goto (tgt := 40) (pc := 31) k_M_firstBit_31 rfl ?_
        | refine T_aload_n (pc1 := 35) (pc := 34) k_M_firstBit_34 rfl rfl ?_
        | refine T_aload_nN (pc1 := 35) (pc := 34) k_M_firstBit_34 rfl rfl ?_
        | refine T_iload (pc1 := 37) (pc := 35) k_M_firstBit_35 rfl rfl ?_
        | (refine T_cV (As := [_]) (d1 := 3) (pc1 := 40) (pc := 37) k_M_firstBit_37 rfl (by decide) (Nat.le_of_ble_eq_true rfl) rfl o_M_thinks l_M_149 rfl (by first | exact ga G (by decide) rfl | assumption) rfl (c_M_thinks G (by assumption) (by assumption) (by assumption) (fun J hJ => ?_)) <;> try dsimp only [psh])
        | refine T_iastN (pc1 := 41) (pc := 40) k_M_firstBit_40 rfl (by first | exact ga G (by decide) rfl | assumption) (by omega) (by omega) ?_
        | refine T_iincN (b := 1) (pc1 := 44) (pc := 41) k_M_firstBit_41 rfl rfl (by decide) ?_
        | refine T_iinc (v := (nI 1)) (pc1 := 44) (pc := 41) k_M_firstBit_41 rfl rfl (by decide) ?_
        | refine T_goto (tgt := 3) (pc := 44) k_M_firstBit_44 rfl ?_
        | refine T_aload_n (pc1 := 48) (pc := 47) k_M_firstBit_47 rfl rfl ?_
        | refine T_aload_nN (pc1 := 48) (pc := 47) k_M_firstBit_47 rfl rfl ?_
        | refine T_iload_n (pc1 := 49) (pc := 48) k_M_firstBit_48 rfl rfl ?_
        | refine T_iconst (v := (-1)) (pc1 := 53) (pc := 52) k_M_firstBit_52 rfl (by decide) ?_
        | refine T_istore (pc1 := 55) (pc := 53) k_M_firstBit_53 rfl (Nat.le_of_ble_eq_true rfl) ?_
        | refine T_aload_n (pc1 := 56) (pc := 55) k_M_firstBit_55 rfl rfl ?_
        | refine T_aload_nN (pc1 := 56) (pc := 55) k_M_firstBit_55 rfl rfl ?_
        | refine T_getR (pc1 := 59) (pc := 56) k_M_firstBit_56 rfl f_M_9 rfl (by first | exact ga G (by decide) rfl | assumption) (by first | exact gr G (by decide) rfl | assumption) ?_
        | refine T_iconst (v := (nI 5)) (pc1 := 60) (pc := 59) k_M_firstBit_59 rfl (by decide) ?_
        | refine T_ialdN (pc1 := 61) (pc := 60) k_M_firstBit_60 rfl (by first | exact ga G (by decide) rfl | assumption) (by omega) (by omega) (by first | assumption | (simp (disch := omega) only [pI_eq, pI_row, pI_col, va_up_self, va_up_ne, ne_eq, not_false_eq_true, hJN, h5] <;> rfl) | rfl) ?_
        | refine T_iald (pc1 := 61) (pc := 60) k_M_firstBit_60 rfl (by first | exact ga G (by decide) rfl | assumption) (by assumption) ?_
        | refine T_iconst (v := (nI 1)) (pc1 := 62) (pc := 61) k_M_firstBit_61 rfl (by decide) ?_
        | refine T_isub (pc1 := 63) (pc := 62) k_M_firstBit_62 rfl ?_
        | refine T_istore (pc1 := 65) (pc := 63) k_M_firstBit_63 rfl (Nat.le_of_ble_eq_true rfl) ?_
        | (with_reducible refine T_if_ltN (tgt := 144) (pc1 := 70) (pc := 67) k_M_firstBit_67 (by decide) (by decide) (by omega) ?_ <;> first | (exfalso; omega) | skip)
        | refine T_if_lt_t (tgt := 144) (pc := 67) k_M_firstBit_67 rfl (by decide) ?_
        | refine T_if_lt_f (tgt := 144) (pc1 := 70) (pc := 67) k_M_firstBit_67 rfl rfl (by decide) ?_
        | refine T_if_lt (tgt := 144) (pc1 := 70) (pc := 67) k_M_firstBit_67 rfl rfl (fun hc => ?_) (fun hc => ?_)
        | refine T_aload_n (pc1 := 71) (pc := 70) k_M_firstBit_70 rfl rfl ?_
        | refine T_aload_nN (pc1 := 71) (pc := 70) k_M_firstBit_70 rfl rfl ?_
        | refine T_getR (pc1 := 74) (pc := 71) k_M_firstBit_71 rfl f_M_22 rfl (by first | exact ga G (by decide) rfl | assumption) (by first | exact gr G (by decide) rfl | assumption) ?_
        | refine T_iload_n (pc1 := 75) (pc := 74) k_M_firstBit_74 rfl rfl ?_
        | refine T_ialdN (pc1 := 76) (pc := 75) k_M_firstBit_75 rfl (ga G (by decide) rfl) (by omega) (by omega) hat ?_
        | refine T_ldc (v := (nI 1000000)) (pc1 := 78) (pc := 76) k_M_firstBit_76 rfl c_M_163 ?_
        | (with_reducible refine T_icmp_geN (tgt := 144) (pc1 := 81) (pc := 78) k_M_firstBit_78 (by decide) (by decide) (by omega) (by omega) (fun hc => ?_) (fun hc => ?_) <;> first | (exfalso; omega) | skip)
        | refine T_icmp_ge_t (tgt := 144) (pc := 78) k_M_firstBit_78 rfl (by decide) ?_
        | refine T_icmp_ge_f (tgt := 144) (pc1 := 81) (pc := 78) k_M_firstBit_78 rfl rfl (by decide) ?_
        | refine T_icmp_ge (tgt := 144) (pc1 := 81) (pc := 78) k_M_firstBit_78 rfl rfl (fun hc => ?_) (fun hc => ?_)
        | refine T_aload_n (pc1 := 82) (pc := 81) k_M_firstBit_81 rfl rfl ?_
        | refine T_aload_nN (pc1 := 82) (pc := 81) k_M_firstBit_81 rfl rfl ?_
        | refine T_iload (pc1 := 84) (pc := 82) k_M_firstBit_82 rfl rfl ?_
        | refine T_iload_n (pc1 := 85) (pc := 84) k_M_firstBit_84 rfl rfl ?_
        | (refine T_cV (As := [_, _]) (d1 := 2) (pc1 := 88) (pc := 85) k_M_firstBit_85 rfl (by decide) (Nat.le_of_ble_eq_true rfl) rfl o_M_otherEnd l_M_168 rfl (by first | exact ga G (by decide) rfl | assumption) rfl (c_M_otherEnd G hJN ok (by omega) ha (fun v w1 w2 w3 => ?_)) <;> try dsimp only [psh])
        | refine T_istore (pc1 := 90) (pc := 88) k_M_firstBit_88 rfl (Nat.le_of_ble_eq_true rfl) ?_
        | refine T_iload (pc1 := 92) (pc := 90) k_M_firstBit_90 rfl rfl ?_
        | (with_reducible refine T_if_ltN (tgt := 134) (pc1 := 95) (pc := 92) k_M_firstBit_92 (by decide) (by decide) (by omega) ?_ <;> first | (exfalso; omega) | skip)
        | refine T_if_lt_t (tgt := 134) (pc := 92) k_M_firstBit_92 rfl (by decide) ?_
        | refine T_if_lt_f (tgt := 134) (pc1 := 95) (pc := 92) k_M_firstBit_92 rfl rfl (by decide) ?_
        | refine T_if_lt (tgt := 134) (pc1 := 95) (pc := 92) k_M_firstBit_92 rfl rfl (fun hc => ?_) (fun hc => ?_)
        | refine T_aload_n (pc1 := 96) (pc := 95) k_M_firstBit_95 rfl rfl ?_
        | refine T_aload_nN (pc1 := 96) (pc := 95) k_M_firstBit_95 rfl rfl ?_
        | refine T_getR (pc1 := 99) (pc := 96) k_M_firstBit_96 rfl f_M_19 rfl (by first | exact ga G (by decide) rfl | assumption) (by first | exact gr G (by decide) rfl | assumption) ?_
        | refine T_iload (pc1 := 101) (pc := 99) k_M_firstBit_99 rfl rfl ?_
        | refine T_ialdN (pc1 := 102) (pc := 101) k_M_firstBit_101 rfl (ga G (by decide) rfl) (by omega) (by omega) hcm ?_
        | (with_reducible refine T_if_leN (tgt := 134) (pc1 := 105) (pc := 102) k_M_firstBit_102 (by decide) (by decide) (by omega) (fun hc => ?_) (fun hc => ?_) <;> first | (exfalso; omega) | skip)
        | refine T_if_le_t (tgt := 134) (pc := 102) k_M_firstBit_102 rfl (by decide) ?_
        | refine T_if_le_f (tgt := 134) (pc1 := 105) (pc := 102) k_M_firstBit_102 rfl rfl (by decide) ?_
        | refine T_if_le (tgt := 134) (pc1 := 105) (pc := 102) k_M_firstBit_102 rfl rfl (fun hc => ?_) (fun hc => ?_)
        | refine T_aload_n (pc1 := 106) (pc := 105) k_M_firstBit_105 rfl rfl ?_
        | refine T_aload_nN (pc1 := 106) (pc := 105) k_M_firstBit_105 rfl rfl ?_
        | refine T_getR (pc1 := 109) (pc := 106) k_M_firstBit_106 rfl f_M_22 rfl (by first | exact ga G (by decide) rfl | assumption) (by first | exact gr G (by decide) rfl | assumption) ?_
        | refine T_iload (pc1 := 111) (pc := 109) k_M_firstBit_109 rfl rfl ?_
        | refine T_ialdN (pc1 := 112) (pc := 111) k_M_firstBit_111 rfl (ga G (by decide) rfl) (by omega) (by omega) (by first | exact v2 | exact v1) ?_
        | refine T_aload_n (pc1 := 113) (pc := 112) k_M_firstBit_112 rfl rfl ?_
        | refine T_aload_nN (pc1 := 113) (pc := 112) k_M_firstBit_112 rfl rfl ?_
        | refine T_getR (pc1 := 116) (pc := 113) k_M_firstBit_113 rfl f_M_19 rfl (by first | exact ga G (by decide) rfl | assumption) (by first | exact gr G (by decide) rfl | assumption) ?_
        | refine T_iload (pc1 := 118) (pc := 116) k_M_firstBit_116 rfl rfl ?_
        | refine T_ialdN (pc1 := 119) (pc := 118) k_M_firstBit_118 rfl (ga G (by decide) rfl) (by omega) (by omega) hcm ?_
        | with_reducible refine T_iaddN (pc1 := 120) (pc := 119) k_M_firstBit_119 (by decide) ?_
        | refine T_iadd (pc1 := 120) (pc := 119) k_M_firstBit_119 rfl ?_
        | refine T_aload_n (pc1 := 121) (pc := 120) k_M_firstBit_120 rfl rfl ?_
        | refine T_aload_nN (pc1 := 121) (pc := 120) k_M_firstBit_120 rfl rfl ?_
        | refine T_getR (pc1 := 124) (pc := 121) k_M_firstBit_121 rfl f_M_22 rfl (by first | exact ga G (by decide) rfl | assumption) (by first | exact gr G (by decide) rfl | assumption) ?_
        | refine T_iload_n (pc1 := 125) (pc := 124) k_M_firstBit_124 rfl rfl ?_
        | refine T_ialdN (pc1 := 126) (pc := 125) k_M_firstBit_125 rfl (ga G (by decide) rfl) (by omega) (by omega) hat ?_
        | (with_reducible refine T_icmp_neN (tgt := 134) (pc1 := 129) (pc := 126) k_M_firstBit_126 (by decide) (by decide) (by omega) (by omega) (fun hc => ?_) (fun hc => ?_) <;> first | (exfalso; omega) | skip)
        | refine T_icmp_ne_t (tgt := 134) (pc := 126) k_M_firstBit_126 rfl (by decide) ?_
        | refine T_icmp_ne_f (tgt := 134) (pc1 := 129) (pc := 126) k_M_firstBit_126 rfl rfl (by decide) ?_
        | refine T_icmp_ne (tgt := 134) (pc1 := 129) (pc := 126) k_M_firstBit_126 rfl rfl (fun hc => ?_) (fun hc => ?_)
        | refine T_iload (pc1 := 131) (pc := 129) k_M_firstBit_129 rfl rfl ?_
        | refine T_goto (tgt := 136) (pc := 131) k_M_firstBit_131 rfl ?_
        | refine T_iload (pc1 := 136) (pc := 134) k_M_firstBit_134 rfl rfl ?_
        | refine T_istore (pc1 := 138) (pc := 136) k_M_firstBit_136 rfl (Nat.le_of_ble_eq_true rfl) ?_
        | (refine T_iinc (v := (-1)) (pc1 := 141) (pc := 138) k_M_firstBit_138 rfl rfl (by decide) ?_; rw [hdec])
        | refine T_goto (tgt := 65) (pc := 141) k_M_firstBit_141 rfl ?_
        | refine T_iload (pc1 := 146) (pc := 144) k_M_firstBit_144 rfl rfl ?_
        | refine T_retI (pc := 146) k_M_firstBit_146 rfl (by first | rfl | decide | assumption) ?_)
      have hx5 : nI n - nI 1 = (if n = 0 then (-1 : Int32) else nI (n - 1)) := by
        by_cases h0 : n = 0
        · subst h0; rfl
        · rw [if_neg h0, pk_sub (by omega)]
      have e := loop n (nI n - nI 1) o6 (Nat.le_refl _) hx5
      rw [Nat.sub_self] at e
      exact e
    · rw [if_neg hD] at k2
      by_cases h0 : n = 0
      · subst h0
        repeat' (first
          | refine T_iconst (v := (nI 0)) (pc1 := 1) (pc := 0) k_M_firstBit_0 rfl (by decide) ?_
          | refine T_istore (pc1 := 3) (pc := 1) k_M_firstBit_1 rfl (Nat.le_of_ble_eq_true rfl) ?_
          | refine T_iload (pc1 := 5) (pc := 3) k_M_firstBit_3 rfl rfl ?_
          | refine T_aload_n (pc1 := 6) (pc := 5) k_M_firstBit_5 rfl rfl ?_
          | refine T_aload_nN (pc1 := 6) (pc := 5) k_M_firstBit_5 rfl rfl ?_
          | refine T_getR (pc1 := 9) (pc := 6) k_M_firstBit_6 rfl f_M_9 rfl (by first | exact ga G (by decide) rfl | assumption) (by first | exact gr G (by decide) rfl | assumption) ?_
          | refine T_iconst (v := (nI 5)) (pc1 := 10) (pc := 9) k_M_firstBit_9 rfl (by decide) ?_
          | refine T_ialdN (pc1 := 11) (pc := 10) k_M_firstBit_10 rfl (by first | exact ga G (by decide) rfl | assumption) (by omega) (by omega) (by first | assumption | (simp (disch := omega) only [pI_eq, pI_row, pI_col, va_up_self, va_up_ne, ne_eq, not_false_eq_true, hJN, h5] <;> rfl) | rfl) ?_
          | refine T_iald (pc1 := 11) (pc := 10) k_M_firstBit_10 rfl (by first | exact ga G (by decide) rfl | assumption) (by assumption) ?_
          | (with_reducible refine T_icmp_geN (tgt := 47) (pc1 := 14) (pc := 11) k_M_firstBit_11 (by decide) (by decide) (by omega) (by omega) (fun hc => ?_) (fun hc => ?_) <;> first | (exfalso; omega) | skip)
          | refine T_icmp_ge_t (tgt := 47) (pc := 11) k_M_firstBit_11 rfl (by decide) ?_
          | refine T_icmp_ge_f (tgt := 47) (pc1 := 14) (pc := 11) k_M_firstBit_11 rfl rfl (by decide) ?_
          | refine T_icmp_ge (tgt := 47) (pc1 := 14) (pc := 11) k_M_firstBit_11 rfl rfl (fun hc => ?_) (fun hc => ?_)
          | refine T_aload_n (pc1 := 15) (pc := 14) k_M_firstBit_14 rfl rfl ?_
          | refine T_aload_nN (pc1 := 15) (pc := 14) k_M_firstBit_14 rfl rfl ?_
          | refine T_getR (pc1 := 18) (pc := 15) k_M_firstBit_15 rfl f_M_19 rfl (by first | exact ga G (by decide) rfl | assumption) (by first | exact gr G (by decide) rfl | assumption) ?_
          | refine T_iload (pc1 := 20) (pc := 18) k_M_firstBit_18 rfl rfl ?_
          | refine T_iload_n (pc1 := 21) (pc := 20) k_M_firstBit_20 rfl rfl ?_
          | refine T_iload (pc1 := 23) (pc := 21) k_M_firstBit_21 rfl rfl ?_
          | refine T_ishr (pc1 := 24) (pc := 23) k_M_firstBit_23 rfl ?_
          | refine T_iconst (v := (nI 1)) (pc1 := 25) (pc := 24) k_M_firstBit_24 rfl (by decide) ?_
          | refine T_iand (pc1 := 26) (pc := 25) k_M_firstBit_25 rfl ?_
          | refine T_iconst (v := (nI 1)) (pc1 := 27) (pc := 26) k_M_firstBit_26 rfl (by decide) ?_
          | (with_reducible refine T_icmp_neN (tgt := 34) (pc1 := 30) (pc := 27) k_M_firstBit_27 (by decide) (by decide) (by omega) (by omega) (fun hc => ?_) (fun hc => ?_) <;> first | (exfalso; omega) | skip)
          | refine T_icmp_ne_t (tgt := 34) (pc := 27) k_M_firstBit_27 rfl (by decide) ?_
          | refine T_icmp_ne_f (tgt := 34) (pc1 := 30) (pc := 27) k_M_firstBit_27 rfl rfl (by decide) ?_
          | refine T_icmp_ne (tgt := 34) (pc1 := 30) (pc := 27) k_M_firstBit_27 rfl rfl (fun hc => ?_) (fun hc => ?_)
          | refine T_iconst (v := (nI 0)) (pc1 := 31) (pc := 30) k_M_firstBit_30 rfl (by decide) ?_
          | refine T_goto (tgt := 40) (pc := 31) k_M_firstBit_31 rfl ?_
          | refine T_aload_n (pc1 := 35) (pc := 34) k_M_firstBit_34 rfl rfl ?_
          | refine T_aload_nN (pc1 := 35) (pc := 34) k_M_firstBit_34 rfl rfl ?_
          | refine T_iload (pc1 := 37) (pc := 35) k_M_firstBit_35 rfl rfl ?_
          | (refine T_cV (As := [_]) (d1 := 3) (pc1 := 40) (pc := 37) k_M_firstBit_37 rfl (by decide) (Nat.le_of_ble_eq_true rfl) rfl o_M_thinks l_M_149 rfl (by first | exact ga G (by decide) rfl | assumption) rfl (c_M_thinks G (by assumption) (by assumption) (by assumption) (fun J hJ => ?_)) <;> try dsimp only [psh])
          | refine T_iastN (pc1 := 41) (pc := 40) k_M_firstBit_40 rfl (by first | exact ga G (by decide) rfl | assumption) (by omega) (by omega) ?_
          | refine T_iincN (b := 1) (pc1 := 44) (pc := 41) k_M_firstBit_41 rfl rfl (by decide) ?_
          | refine T_iinc (v := (nI 1)) (pc1 := 44) (pc := 41) k_M_firstBit_41 rfl rfl (by decide) ?_
          | refine T_goto (tgt := 3) (pc := 44) k_M_firstBit_44 rfl ?_
          | refine T_aload_n (pc1 := 48) (pc := 47) k_M_firstBit_47 rfl rfl ?_
          | refine T_aload_nN (pc1 := 48) (pc := 47) k_M_firstBit_47 rfl rfl ?_
          | refine T_iload_n (pc1 := 49) (pc := 48) k_M_firstBit_48 rfl rfl ?_
          | refine T_iconst (v := (-1)) (pc1 := 53) (pc := 52) k_M_firstBit_52 rfl (by decide) ?_
          | refine T_istore (pc1 := 55) (pc := 53) k_M_firstBit_53 rfl (Nat.le_of_ble_eq_true rfl) ?_
          | refine T_aload_n (pc1 := 56) (pc := 55) k_M_firstBit_55 rfl rfl ?_
          | refine T_aload_nN (pc1 := 56) (pc := 55) k_M_firstBit_55 rfl rfl ?_
          | refine T_getR (pc1 := 59) (pc := 56) k_M_firstBit_56 rfl f_M_9 rfl (by first | exact ga G (by decide) rfl | assumption) (by first | exact gr G (by decide) rfl | assumption) ?_
          | refine T_iconst (v := (nI 5)) (pc1 := 60) (pc := 59) k_M_firstBit_59 rfl (by decide) ?_
          | refine T_ialdN (pc1 := 61) (pc := 60) k_M_firstBit_60 rfl (by first | exact ga G (by decide) rfl | assumption) (by omega) (by omega) (by first | assumption | (simp (disch := omega) only [pI_eq, pI_row, pI_col, va_up_self, va_up_ne, ne_eq, not_false_eq_true, hJN, h5] <;> rfl) | rfl) ?_
          | refine T_iald (pc1 := 61) (pc := 60) k_M_firstBit_60 rfl (by first | exact ga G (by decide) rfl | assumption) (by assumption) ?_
          | refine T_iconst (v := (nI 1)) (pc1 := 62) (pc := 61) k_M_firstBit_61 rfl (by decide) ?_
          | refine T_isub (pc1 := 63) (pc := 62) k_M_firstBit_62 rfl ?_
          | refine T_istore (pc1 := 65) (pc := 63) k_M_firstBit_63 rfl (Nat.le_of_ble_eq_true rfl) ?_
          | (with_reducible refine T_if_ltN (tgt := 144) (pc1 := 70) (pc := 67) k_M_firstBit_67 (by decide) (by decide) (by omega) ?_ <;> first | (exfalso; omega) | skip)
          | refine T_if_lt_t (tgt := 144) (pc := 67) k_M_firstBit_67 rfl (by decide) ?_
          | refine T_if_lt_f (tgt := 144) (pc1 := 70) (pc := 67) k_M_firstBit_67 rfl rfl (by decide) ?_
          | refine T_if_lt (tgt := 144) (pc1 := 70) (pc := 67) k_M_firstBit_67 rfl rfl (fun hc => ?_) (fun hc => ?_)
          | refine T_aload_n (pc1 := 71) (pc := 70) k_M_firstBit_70 rfl rfl ?_
          | refine T_aload_nN (pc1 := 71) (pc := 70) k_M_firstBit_70 rfl rfl ?_
          | refine T_getR (pc1 := 74) (pc := 71) k_M_firstBit_71 rfl f_M_22 rfl (by first | exact ga G (by decide) rfl | assumption) (by first | exact gr G (by decide) rfl | assumption) ?_
          | refine T_iload_n (pc1 := 75) (pc := 74) k_M_firstBit_74 rfl rfl ?_
          | refine T_ialdN (pc1 := 76) (pc := 75) k_M_firstBit_75 rfl (ga G (by decide) rfl) (by omega) (by omega) hat ?_
          | refine T_ldc (v := (nI 1000000)) (pc1 := 78) (pc := 76) k_M_firstBit_76 rfl c_M_163 ?_
          | (with_reducible refine T_icmp_geN (tgt := 144) (pc1 := 81) (pc := 78) k_M_firstBit_78 (by decide) (by decide) (by omega) (by omega) (fun hc => ?_) (fun hc => ?_) <;> first | (exfalso; omega) | skip)
          | refine T_icmp_ge_t (tgt := 144) (pc := 78) k_M_firstBit_78 rfl (by decide) ?_
          | refine T_icmp_ge_f (tgt := 144) (pc1 := 81) (pc := 78) k_M_firstBit_78 rfl rfl (by decide) ?_
          | refine T_icmp_ge (tgt := 144) (pc1 := 81) (pc := 78) k_M_firstBit_78 rfl rfl (fun hc => ?_) (fun hc => ?_)
          | refine T_aload_n (pc1 := 82) (pc := 81) k_M_firstBit_81 rfl rfl ?_
          | refine T_aload_nN (pc1 := 82) (pc := 81) k_M_firstBit_81 rfl rfl ?_
          | refine T_iload (pc1 := 84) (pc := 82) k_M_firstBit_82 rfl rfl ?_
          | refine T_iload_n (pc1 := 85) (pc := 84) k_M_firstBit_84 rfl rfl ?_
          | (refine T_cV (As := [_, _]) (d1 := 2) (pc1 := 88) (pc := 85) k_M_firstBit_85 rfl (by decide) (Nat.le_of_ble_eq_true rfl) rfl o_M_otherEnd l_M_168 rfl (by first | exact ga G (by decide) rfl | assumption) rfl (c_M_otherEnd G hJN ok (by omega) ha (fun v w1 w2 w3 => ?_)) <;> try dsimp only [psh])
          | refine T_istore (pc1 := 90) (pc := 88) k_M_firstBit_88 rfl (Nat.le_of_ble_eq_true rfl) ?_
          | refine T_iload (pc1 := 92) (pc := 90) k_M_firstBit_90 rfl rfl ?_
          | (with_reducible refine T_if_ltN (tgt := 134) (pc1 := 95) (pc := 92) k_M_firstBit_92 (by decide) (by decide) (by omega) ?_ <;> first | (exfalso; omega) | skip)
          | refine T_if_lt_t (tgt := 134) (pc := 92) k_M_firstBit_92 rfl (by decide) ?_
          | refine T_if_lt_f (tgt := 134) (pc1 := 95) (pc := 92) k_M_firstBit_92 rfl rfl (by decide) ?_
          | refine T_if_lt (tgt := 134) (pc1 := 95) (pc := 92) k_M_firstBit_92 rfl rfl (fun hc => ?_) (fun hc => ?_)
          | refine T_aload_n (pc1 := 96) (pc := 95) k_M_firstBit_95 rfl rfl ?_
          | refine T_aload_nN (pc1 := 96) (pc := 95) k_M_firstBit_95 rfl rfl ?_
          | refine T_getR (pc1 := 99) (pc := 96) k_M_firstBit_96 rfl f_M_19 rfl (by first | exact ga G (by decide) rfl | assumption) (by first | exact gr G (by decide) rfl | assumption) ?_
          | refine T_iload (pc1 := 101) (pc := 99) k_M_firstBit_99 rfl rfl ?_
          | refine T_ialdN (pc1 := 102) (pc := 101) k_M_firstBit_101 rfl (ga G (by decide) rfl) (by omega) (by omega) hcm ?_
          | (with_reducible refine T_if_leN (tgt := 134) (pc1 := 105) (pc := 102) k_M_firstBit_102 (by decide) (by decide) (by omega) (fun hc => ?_) (fun hc => ?_) <;> first | (exfalso; omega) | skip)
          | refine T_if_le_t (tgt := 134) (pc := 102) k_M_firstBit_102 rfl (by decide) ?_
          | refine T_if_le_f (tgt := 134) (pc1 := 105) (pc := 102) k_M_firstBit_102 rfl rfl (by decide) ?_
          | refine T_if_le (tgt := 134) (pc1 := 105) (pc := 102) k_M_firstBit_102 rfl rfl (fun hc => ?_) (fun hc => ?_)
          | refine T_aload_n (pc1 := 106) (pc := 105) k_M_firstBit_105 rfl rfl ?_
          | refine T_aload_nN (pc1 := 106) (pc := 105) k_M_firstBit_105 rfl rfl ?_
          | refine T_getR (pc1 := 109) (pc := 106) k_M_firstBit_106 rfl f_M_22 rfl (by first | exact ga G (by decide) rfl | assumption) (by first | exact gr G (by decide) rfl | assumption) ?_
          | refine T_iload (pc1 := 111) (pc := 109) k_M_firstBit_109 rfl rfl ?_
          | refine T_ialdN (pc1 := 112) (pc := 111) k_M_firstBit_111 rfl (ga G (by decide) rfl) (by omega) (by omega) (by first | exact v2 | exact v1) ?_
          | refine T_aload_n (pc1 := 113) (pc := 112) k_M_firstBit_112 rfl rfl ?_
          | refine T_aload_nN (pc1 := 113) (pc := 112) k_M_firstBit_112 rfl rfl ?_
          | refine T_getR (pc1 := 116) (pc := 113) k_M_firstBit_113 rfl f_M_19 rfl (by first | exact ga G (by decide) rfl | assumption) (by first | exact gr G (by decide) rfl | assumption) ?_
          | refine T_iload (pc1 := 118) (pc := 116) k_M_firstBit_116 rfl rfl ?_
          | refine T_ialdN (pc1 := 119) (pc := 118) k_M_firstBit_118 rfl (ga G (by decide) rfl) (by omega) (by omega) hcm ?_
          | with_reducible refine T_iaddN (pc1 := 120) (pc := 119) k_M_firstBit_119 (by decide) ?_
          | refine T_iadd (pc1 := 120) (pc := 119) k_M_firstBit_119 rfl ?_
          | refine T_aload_n (pc1 := 121) (pc := 120) k_M_firstBit_120 rfl rfl ?_
          | refine T_aload_nN (pc1 := 121) (pc := 120) k_M_firstBit_120 rfl rfl ?_
          | refine T_getR (pc1 := 124) (pc := 121) k_M_firstBit_121 rfl f_M_22 rfl (by first | exact ga G (by decide) rfl | assumption) (by first | exact gr G (by decide) rfl | assumption) ?_
          | refine T_iload_n (pc1 := 125) (pc := 124) k_M_firstBit_124 rfl rfl ?_
          | refine T_ialdN (pc1 := 126) (pc := 125) k_M_firstBit_125 rfl (ga G (by decide) rfl) (by omega) (by omega) hat ?_
          | (with_reducible refine T_icmp_neN (tgt := 134) (pc1 := 129) (pc := 126) k_M_firstBit_126 (by decide) (by decide) (by omega) (by omega) (fun hc => ?_) (fun hc => ?_) <;> first | (exfalso; omega) | skip)
          | refine T_icmp_ne_t (tgt := 134) (pc := 126) k_M_firstBit_126 rfl (by decide) ?_
          | refine T_icmp_ne_f (tgt := 134) (pc1 := 129) (pc := 126) k_M_firstBit_126 rfl rfl (by decide) ?_
          | refine T_icmp_ne (tgt := 134) (pc1 := 129) (pc := 126) k_M_firstBit_126 rfl rfl (fun hc => ?_) (fun hc => ?_)
          | refine T_iload (pc1 := 131) (pc := 129) k_M_firstBit_129 rfl rfl ?_
          | refine T_goto (tgt := 136) (pc := 131) k_M_firstBit_131 rfl ?_
          | refine T_iload (pc1 := 136) (pc := 134) k_M_firstBit_134 rfl rfl ?_
          | refine T_istore (pc1 := 138) (pc := 136) k_M_firstBit_136 rfl (Nat.le_of_ble_eq_true rfl) ?_
          | (refine T_iinc (v := (-1)) (pc1 := 141) (pc := 138) k_M_firstBit_138 rfl rfl (by decide) ?_; rw [hdec])
          | refine T_goto (tgt := 65) (pc := 141) k_M_firstBit_141 rfl ?_
          | refine T_iload (pc1 := 146) (pc := 144) k_M_firstBit_144 rfl rfl ?_
          | refine T_retI (pc := 146) k_M_firstBit_146 rfl (by first | rfl | decide | assumption) ?_)
        rw [show nI 0 - nI 1 = (-1 : Int32) from rfl]
        repeat' (first
          | refine T_iconst (v := (nI 0)) (pc1 := 1) (pc := 0) k_M_firstBit_0 rfl (by decide) ?_
          | refine T_istore (pc1 := 3) (pc := 1) k_M_firstBit_1 rfl (Nat.le_of_ble_eq_true rfl) ?_
          | refine T_iload (pc1 := 5) (pc := 3) k_M_firstBit_3 rfl rfl ?_
          | refine T_aload_n (pc1 := 6) (pc := 5) k_M_firstBit_5 rfl rfl ?_
          | refine T_aload_nN (pc1 := 6) (pc := 5) k_M_firstBit_5 rfl rfl ?_
          | refine T_getR (pc1 := 9) (pc := 6) k_M_firstBit_6 rfl f_M_9 rfl (by first | exact ga G (by decide) rfl | assumption) (by first | exact gr G (by decide) rfl | assumption) ?_
          | refine T_iconst (v := (nI 5)) (pc1 := 10) (pc := 9) k_M_firstBit_9 rfl (by decide) ?_
          | refine T_ialdN (pc1 := 11) (pc := 10) k_M_firstBit_10 rfl (by first | exact ga G (by decide) rfl | assumption) (by omega) (by omega) (by first | assumption | (simp (disch := omega) only [pI_eq, pI_row, pI_col, va_up_self, va_up_ne, ne_eq, not_false_eq_true, hJN, h5] <;> rfl) | rfl) ?_
          | refine T_iald (pc1 := 11) (pc := 10) k_M_firstBit_10 rfl (by first | exact ga G (by decide) rfl | assumption) (by assumption) ?_
          | (with_reducible refine T_icmp_geN (tgt := 47) (pc1 := 14) (pc := 11) k_M_firstBit_11 (by decide) (by decide) (by omega) (by omega) (fun hc => ?_) (fun hc => ?_) <;> first | (exfalso; omega) | skip)
          | refine T_icmp_ge_t (tgt := 47) (pc := 11) k_M_firstBit_11 rfl (by decide) ?_
          | refine T_icmp_ge_f (tgt := 47) (pc1 := 14) (pc := 11) k_M_firstBit_11 rfl rfl (by decide) ?_
          | refine T_icmp_ge (tgt := 47) (pc1 := 14) (pc := 11) k_M_firstBit_11 rfl rfl (fun hc => ?_) (fun hc => ?_)
          | refine T_aload_n (pc1 := 15) (pc := 14) k_M_firstBit_14 rfl rfl ?_
          | refine T_aload_nN (pc1 := 15) (pc := 14) k_M_firstBit_14 rfl rfl ?_
          | refine T_getR (pc1 := 18) (pc := 15) k_M_firstBit_15 rfl f_M_19 rfl (by first | exact ga G (by decide) rfl | assumption) (by first | exact gr G (by decide) rfl | assumption) ?_
          | refine T_iload (pc1 := 20) (pc := 18) k_M_firstBit_18 rfl rfl ?_
          | refine T_iload_n (pc1 := 21) (pc := 20) k_M_firstBit_20 rfl rfl ?_
          | refine T_iload (pc1 := 23) (pc := 21) k_M_firstBit_21 rfl rfl ?_
          | refine T_ishr (pc1 := 24) (pc := 23) k_M_firstBit_23 rfl ?_
          | refine T_iconst (v := (nI 1)) (pc1 := 25) (pc := 24) k_M_firstBit_24 rfl (by decide) ?_
          | refine T_iand (pc1 := 26) (pc := 25) k_M_firstBit_25 rfl ?_
          | refine T_iconst (v := (nI 1)) (pc1 := 27) (pc := 26) k_M_firstBit_26 rfl (by decide) ?_
          | (with_reducible refine T_icmp_neN (tgt := 34) (pc1 := 30) (pc := 27) k_M_firstBit_27 (by decide) (by decide) (by omega) (by omega) (fun hc => ?_) (fun hc => ?_) <;> first | (exfalso; omega) | skip)
          | refine T_icmp_ne_t (tgt := 34) (pc := 27) k_M_firstBit_27 rfl (by decide) ?_
          | refine T_icmp_ne_f (tgt := 34) (pc1 := 30) (pc := 27) k_M_firstBit_27 rfl rfl (by decide) ?_
          | refine T_icmp_ne (tgt := 34) (pc1 := 30) (pc := 27) k_M_firstBit_27 rfl rfl (fun hc => ?_) (fun hc => ?_)
          | refine T_iconst (v := (nI 0)) (pc1 := 31) (pc := 30) k_M_firstBit_30 rfl (by decide) ?_
          | refine T_goto (tgt := 40) (pc := 31) k_M_firstBit_31 rfl ?_
          | refine T_aload_n (pc1 := 35) (pc := 34) k_M_firstBit_34 rfl rfl ?_
          | refine T_aload_nN (pc1 := 35) (pc := 34) k_M_firstBit_34 rfl rfl ?_
          | refine T_iload (pc1 := 37) (pc := 35) k_M_firstBit_35 rfl rfl ?_
          | (refine T_cV (As := [_]) (d1 := 3) (pc1 := 40) (pc := 37) k_M_firstBit_37 rfl (by decide) (Nat.le_of_ble_eq_true rfl) rfl o_M_thinks l_M_149 rfl (by first | exact ga G (by decide) rfl | assumption) rfl (c_M_thinks G (by assumption) (by assumption) (by assumption) (fun J hJ => ?_)) <;> try dsimp only [psh])
          | refine T_iastN (pc1 := 41) (pc := 40) k_M_firstBit_40 rfl (by first | exact ga G (by decide) rfl | assumption) (by omega) (by omega) ?_
          | refine T_iincN (b := 1) (pc1 := 44) (pc := 41) k_M_firstBit_41 rfl rfl (by decide) ?_
          | refine T_iinc (v := (nI 1)) (pc1 := 44) (pc := 41) k_M_firstBit_41 rfl rfl (by decide) ?_
          | refine T_goto (tgt := 3) (pc := 44) k_M_firstBit_44 rfl ?_
          | refine T_aload_n (pc1 := 48) (pc := 47) k_M_firstBit_47 rfl rfl ?_
          | refine T_aload_nN (pc1 := 48) (pc := 47) k_M_firstBit_47 rfl rfl ?_
          | refine T_iload_n (pc1 := 49) (pc := 48) k_M_firstBit_48 rfl rfl ?_
          | refine T_iconst (v := (-1)) (pc1 := 53) (pc := 52) k_M_firstBit_52 rfl (by decide) ?_
          | refine T_istore (pc1 := 55) (pc := 53) k_M_firstBit_53 rfl (Nat.le_of_ble_eq_true rfl) ?_
          | refine T_aload_n (pc1 := 56) (pc := 55) k_M_firstBit_55 rfl rfl ?_
          | refine T_aload_nN (pc1 := 56) (pc := 55) k_M_firstBit_55 rfl rfl ?_
          | refine T_getR (pc1 := 59) (pc := 56) k_M_firstBit_56 rfl f_M_9 rfl (by first | exact ga G (by decide) rfl | assumption) (by first | exact gr G (by decide) rfl | assumption) ?_
          | refine T_iconst (v := (nI 5)) (pc1 := 60) (pc := 59) k_M_firstBit_59 rfl (by decide) ?_
          | refine T_ialdN (pc1 := 61) (pc := 60) k_M_firstBit_60 rfl (by first | exact ga G (by decide) rfl | assumption) (by omega) (by omega) (by first | assumption | (simp (disch := omega) only [pI_eq, pI_row, pI_col, va_up_self, va_up_ne, ne_eq, not_false_eq_true, hJN, h5] <;> rfl) | rfl) ?_
          | refine T_iald (pc1 := 61) (pc := 60) k_M_firstBit_60 rfl (by first | exact ga G (by decide) rfl | assumption) (by assumption) ?_
          | refine T_iconst (v := (nI 1)) (pc1 := 62) (pc := 61) k_M_firstBit_61 rfl (by decide) ?_
          | refine T_isub (pc1 := 63) (pc := 62) k_M_firstBit_62 rfl ?_
          | refine T_istore (pc1 := 65) (pc := 63) k_M_firstBit_63 rfl (Nat.le_of_ble_eq_true rfl) ?_
          | refine T_iload (pc1 := 67) (pc := 65) k_M_firstBit_65 rfl rfl ?_
          | (with_reducible refine T_if_ltN (tgt := 144) (pc1 := 70) (pc := 67) k_M_firstBit_67 (by decide) (by decide) (by omega) ?_ <;> first | (exfalso; omega) | skip)
          | refine T_if_lt_t (tgt := 144) (pc := 67) k_M_firstBit_67 rfl (by decide) ?_
          | refine T_if_lt_f (tgt := 144) (pc1 := 70) (pc := 67) k_M_firstBit_67 rfl rfl (by decide) ?_
          | refine T_if_lt (tgt := 144) (pc1 := 70) (pc := 67) k_M_firstBit_67 rfl rfl (fun hc => ?_) (fun hc => ?_)
          | refine T_aload_n (pc1 := 71) (pc := 70) k_M_firstBit_70 rfl rfl ?_
          | refine T_aload_nN (pc1 := 71) (pc := 70) k_M_firstBit_70 rfl rfl ?_
          | refine T_getR (pc1 := 74) (pc := 71) k_M_firstBit_71 rfl f_M_22 rfl (by first | exact ga G (by decide) rfl | assumption) (by first | exact gr G (by decide) rfl | assumption) ?_
          | refine T_iload_n (pc1 := 75) (pc := 74) k_M_firstBit_74 rfl rfl ?_
          | refine T_ialdN (pc1 := 76) (pc := 75) k_M_firstBit_75 rfl (ga G (by decide) rfl) (by omega) (by omega) hat ?_
          | refine T_ldc (v := (nI 1000000)) (pc1 := 78) (pc := 76) k_M_firstBit_76 rfl c_M_163 ?_
          | (with_reducible refine T_icmp_geN (tgt := 144) (pc1 := 81) (pc := 78) k_M_firstBit_78 (by decide) (by decide) (by omega) (by omega) (fun hc => ?_) (fun hc => ?_) <;> first | (exfalso; omega) | skip)
          | refine T_icmp_ge_t (tgt := 144) (pc := 78) k_M_firstBit_78 rfl (by decide) ?_
          | refine T_icmp_ge_f (tgt := 144) (pc1 := 81) (pc := 78) k_M_firstBit_78 rfl rfl (by decide) ?_
          | refine T_icmp_ge (tgt := 144) (pc1 := 81) (pc := 78) k_M_firstBit_78 rfl rfl (fun hc => ?_) (fun hc => ?_)
          | refine T_aload_n (pc1 := 82) (pc := 81) k_M_firstBit_81 rfl rfl ?_
          | refine T_aload_nN (pc1 := 82) (pc := 81) k_M_firstBit_81 rfl rfl ?_
          | refine T_iload (pc1 := 84) (pc := 82) k_M_firstBit_82 rfl rfl ?_
          | refine T_iload_n (pc1 := 85) (pc := 84) k_M_firstBit_84 rfl rfl ?_
          | (refine T_cV (As := [_, _]) (d1 := 2) (pc1 := 88) (pc := 85) k_M_firstBit_85 rfl (by decide) (Nat.le_of_ble_eq_true rfl) rfl o_M_otherEnd l_M_168 rfl (by first | exact ga G (by decide) rfl | assumption) rfl (c_M_otherEnd G hJN ok (by omega) ha (fun v w1 w2 w3 => ?_)) <;> try dsimp only [psh])
          | refine T_istore (pc1 := 90) (pc := 88) k_M_firstBit_88 rfl (Nat.le_of_ble_eq_true rfl) ?_
          | refine T_iload (pc1 := 92) (pc := 90) k_M_firstBit_90 rfl rfl ?_
          | (with_reducible refine T_if_ltN (tgt := 134) (pc1 := 95) (pc := 92) k_M_firstBit_92 (by decide) (by decide) (by omega) ?_ <;> first | (exfalso; omega) | skip)
          | refine T_if_lt_t (tgt := 134) (pc := 92) k_M_firstBit_92 rfl (by decide) ?_
          | refine T_if_lt_f (tgt := 134) (pc1 := 95) (pc := 92) k_M_firstBit_92 rfl rfl (by decide) ?_
          | refine T_if_lt (tgt := 134) (pc1 := 95) (pc := 92) k_M_firstBit_92 rfl rfl (fun hc => ?_) (fun hc => ?_)
          | refine T_aload_n (pc1 := 96) (pc := 95) k_M_firstBit_95 rfl rfl ?_
          | refine T_aload_nN (pc1 := 96) (pc := 95) k_M_firstBit_95 rfl rfl ?_
          | refine T_getR (pc1 := 99) (pc := 96) k_M_firstBit_96 rfl f_M_19 rfl (by first | exact ga G (by decide) rfl | assumption) (by first | exact gr G (by decide) rfl | assumption) ?_
          | refine T_iload (pc1 := 101) (pc := 99) k_M_firstBit_99 rfl rfl ?_
          | refine T_ialdN (pc1 := 102) (pc := 101) k_M_firstBit_101 rfl (ga G (by decide) rfl) (by omega) (by omega) hcm ?_
          | (with_reducible refine T_if_leN (tgt := 134) (pc1 := 105) (pc := 102) k_M_firstBit_102 (by decide) (by decide) (by omega) (fun hc => ?_) (fun hc => ?_) <;> first | (exfalso; omega) | skip)
          | refine T_if_le_t (tgt := 134) (pc := 102) k_M_firstBit_102 rfl (by decide) ?_
          | refine T_if_le_f (tgt := 134) (pc1 := 105) (pc := 102) k_M_firstBit_102 rfl rfl (by decide) ?_
          | refine T_if_le (tgt := 134) (pc1 := 105) (pc := 102) k_M_firstBit_102 rfl rfl (fun hc => ?_) (fun hc => ?_)
          | refine T_aload_n (pc1 := 106) (pc := 105) k_M_firstBit_105 rfl rfl ?_
          | refine T_aload_nN (pc1 := 106) (pc := 105) k_M_firstBit_105 rfl rfl ?_
          | refine T_getR (pc1 := 109) (pc := 106) k_M_firstBit_106 rfl f_M_22 rfl (by first | exact ga G (by decide) rfl | assumption) (by first | exact gr G (by decide) rfl | assumption) ?_
          | refine T_iload (pc1 := 111) (pc := 109) k_M_firstBit_109 rfl rfl ?_
          | refine T_ialdN (pc1 := 112) (pc := 111) k_M_firstBit_111 rfl (ga G (by decide) rfl) (by omega) (by omega) (by first | exact v2 | exact v1) ?_
          | refine T_aload_n (pc1 := 113) (pc := 112) k_M_firstBit_112 rfl rfl ?_
          | refine T_aload_nN (pc1 := 113) (pc := 112) k_M_firstBit_112 rfl rfl ?_
          | refine T_getR (pc1 := 116) (pc := 113) k_M_firstBit_113 rfl f_M_19 rfl (by first | exact ga G (by decide) rfl | assumption) (by first | exact gr G (by decide) rfl | assumption) ?_
          | refine T_iload (pc1 := 118) (pc := 116) k_M_firstBit_116 rfl rfl ?_
          | refine T_ialdN (pc1 := 119) (pc := 118) k_M_firstBit_118 rfl (ga G (by decide) rfl) (by omega) (by omega) hcm ?_
          | with_reducible refine T_iaddN (pc1 := 120) (pc := 119) k_M_firstBit_119 (by decide) ?_
          | refine T_iadd (pc1 := 120) (pc := 119) k_M_firstBit_119 rfl ?_
          | refine T_aload_n (pc1 := 121) (pc := 120) k_M_firstBit_120 rfl rfl ?_
          | refine T_aload_nN (pc1 := 121) (pc := 120) k_M_firstBit_120 rfl rfl ?_
          | refine T_getR (pc1 := 124) (pc := 121) k_M_firstBit_121 rfl f_M_22 rfl (by first | exact ga G (by decide) rfl | assumption) (by first | exact gr G (by decide) rfl | assumption) ?_
          | refine T_iload_n (pc1 := 125) (pc := 124) k_M_firstBit_124 rfl rfl ?_
          | refine T_ialdN (pc1 := 126) (pc := 125) k_M_firstBit_125 rfl (ga G (by decide) rfl) (by omega) (by omega) hat ?_
          | (with_reducible refine T_icmp_neN (tgt := 134) (pc1 := 129) (pc := 126) k_M_firstBit_126 (by decide) (by decide) (by omega) (by omega) (fun hc => ?_) (fun hc => ?_) <;> first | (exfalso; omega) | skip)
          | refine T_icmp_ne_t (tgt := 134) (pc := 126) k_M_firstBit_126 rfl (by decide) ?_
          | refine T_icmp_ne_f (tgt := 134) (pc1 := 129) (pc := 126) k_M_firstBit_126 rfl rfl (by decide) ?_
          | refine T_icmp_ne (tgt := 134) (pc1 := 129) (pc := 126) k_M_firstBit_126 rfl rfl (fun hc => ?_) (fun hc => ?_)
          | refine T_iload (pc1 := 131) (pc := 129) k_M_firstBit_129 rfl rfl ?_
          | refine T_goto (tgt := 136) (pc := 131) k_M_firstBit_131 rfl ?_
          | refine T_iload (pc1 := 136) (pc := 134) k_M_firstBit_134 rfl rfl ?_
          | refine T_istore (pc1 := 138) (pc := 136) k_M_firstBit_136 rfl (Nat.le_of_ble_eq_true rfl) ?_
          | (refine T_iinc (v := (-1)) (pc1 := 141) (pc := 138) k_M_firstBit_138 rfl rfl (by decide) ?_; rw [hdec])
          | refine T_goto (tgt := 65) (pc := 141) k_M_firstBit_141 rfl ?_
          | refine T_iload (pc1 := 146) (pc := 144) k_M_firstBit_144 rfl rfl ?_
          | refine T_retI (pc := 146) k_M_firstBit_146 rfl (by first | rfl | decide | assumption) ?_)
        exact k2
      · repeat' (first
          | refine T_iconst (v := (nI 0)) (pc1 := 1) (pc := 0) k_M_firstBit_0 rfl (by decide) ?_
          | refine T_istore (pc1 := 3) (pc := 1) k_M_firstBit_1 rfl (Nat.le_of_ble_eq_true rfl) ?_
          | refine T_iload (pc1 := 5) (pc := 3) k_M_firstBit_3 rfl rfl ?_
          | refine T_aload_n (pc1 := 6) (pc := 5) k_M_firstBit_5 rfl rfl ?_
          | refine T_aload_nN (pc1 := 6) (pc := 5) k_M_firstBit_5 rfl rfl ?_
          | refine T_getR (pc1 := 9) (pc := 6) k_M_firstBit_6 rfl f_M_9 rfl (by first | exact ga G (by decide) rfl | assumption) (by first | exact gr G (by decide) rfl | assumption) ?_
          | refine T_iconst (v := (nI 5)) (pc1 := 10) (pc := 9) k_M_firstBit_9 rfl (by decide) ?_
          | refine T_ialdN (pc1 := 11) (pc := 10) k_M_firstBit_10 rfl (by first | exact ga G (by decide) rfl | assumption) (by omega) (by omega) (by first | assumption | (simp (disch := omega) only [pI_eq, pI_row, pI_col, va_up_self, va_up_ne, ne_eq, not_false_eq_true, hJN, h5] <;> rfl) | rfl) ?_
          | refine T_iald (pc1 := 11) (pc := 10) k_M_firstBit_10 rfl (by first | exact ga G (by decide) rfl | assumption) (by assumption) ?_
          | (with_reducible refine T_icmp_geN (tgt := 47) (pc1 := 14) (pc := 11) k_M_firstBit_11 (by decide) (by decide) (by omega) (by omega) (fun hc => ?_) (fun hc => ?_) <;> first | (exfalso; omega) | skip)
          | refine T_icmp_ge_t (tgt := 47) (pc := 11) k_M_firstBit_11 rfl (by decide) ?_
          | refine T_icmp_ge_f (tgt := 47) (pc1 := 14) (pc := 11) k_M_firstBit_11 rfl rfl (by decide) ?_
          | refine T_icmp_ge (tgt := 47) (pc1 := 14) (pc := 11) k_M_firstBit_11 rfl rfl (fun hc => ?_) (fun hc => ?_)
          | refine T_aload_n (pc1 := 15) (pc := 14) k_M_firstBit_14 rfl rfl ?_
          | refine T_aload_nN (pc1 := 15) (pc := 14) k_M_firstBit_14 rfl rfl ?_
          | refine T_getR (pc1 := 18) (pc := 15) k_M_firstBit_15 rfl f_M_19 rfl (by first | exact ga G (by decide) rfl | assumption) (by first | exact gr G (by decide) rfl | assumption) ?_
          | refine T_iload (pc1 := 20) (pc := 18) k_M_firstBit_18 rfl rfl ?_
          | refine T_iload_n (pc1 := 21) (pc := 20) k_M_firstBit_20 rfl rfl ?_
          | refine T_iload (pc1 := 23) (pc := 21) k_M_firstBit_21 rfl rfl ?_
          | refine T_ishr (pc1 := 24) (pc := 23) k_M_firstBit_23 rfl ?_
          | refine T_iconst (v := (nI 1)) (pc1 := 25) (pc := 24) k_M_firstBit_24 rfl (by decide) ?_
          | refine T_iand (pc1 := 26) (pc := 25) k_M_firstBit_25 rfl ?_
          | refine T_iconst (v := (nI 1)) (pc1 := 27) (pc := 26) k_M_firstBit_26 rfl (by decide) ?_
          | (with_reducible refine T_icmp_neN (tgt := 34) (pc1 := 30) (pc := 27) k_M_firstBit_27 (by decide) (by decide) (by omega) (by omega) (fun hc => ?_) (fun hc => ?_) <;> first | (exfalso; omega) | skip)
          | refine T_icmp_ne_t (tgt := 34) (pc := 27) k_M_firstBit_27 rfl (by decide) ?_
          | refine T_icmp_ne_f (tgt := 34) (pc1 := 30) (pc := 27) k_M_firstBit_27 rfl rfl (by decide) ?_
          | refine T_icmp_ne (tgt := 34) (pc1 := 30) (pc := 27) k_M_firstBit_27 rfl rfl (fun hc => ?_) (fun hc => ?_)
          | refine T_iconst (v := (nI 0)) (pc1 := 31) (pc := 30) k_M_firstBit_30 rfl (by decide) ?_
          | refine T_goto (tgt := 40) (pc := 31) k_M_firstBit_31 rfl ?_
          | refine T_aload_n (pc1 := 35) (pc := 34) k_M_firstBit_34 rfl rfl ?_
          | refine T_aload_nN (pc1 := 35) (pc := 34) k_M_firstBit_34 rfl rfl ?_
          | refine T_iload (pc1 := 37) (pc := 35) k_M_firstBit_35 rfl rfl ?_
          | (refine T_cV (As := [_]) (d1 := 3) (pc1 := 40) (pc := 37) k_M_firstBit_37 rfl (by decide) (Nat.le_of_ble_eq_true rfl) rfl o_M_thinks l_M_149 rfl (by first | exact ga G (by decide) rfl | assumption) rfl (c_M_thinks G (by assumption) (by assumption) (by assumption) (fun J hJ => ?_)) <;> try dsimp only [psh])
          | refine T_iastN (pc1 := 41) (pc := 40) k_M_firstBit_40 rfl (by first | exact ga G (by decide) rfl | assumption) (by omega) (by omega) ?_
          | refine T_iincN (b := 1) (pc1 := 44) (pc := 41) k_M_firstBit_41 rfl rfl (by decide) ?_
          | refine T_iinc (v := (nI 1)) (pc1 := 44) (pc := 41) k_M_firstBit_41 rfl rfl (by decide) ?_
          | refine T_goto (tgt := 3) (pc := 44) k_M_firstBit_44 rfl ?_
          | refine T_aload_n (pc1 := 48) (pc := 47) k_M_firstBit_47 rfl rfl ?_
          | refine T_aload_nN (pc1 := 48) (pc := 47) k_M_firstBit_47 rfl rfl ?_
          | refine T_iload_n (pc1 := 49) (pc := 48) k_M_firstBit_48 rfl rfl ?_
          | refine T_iconst (v := (-1)) (pc1 := 53) (pc := 52) k_M_firstBit_52 rfl (by decide) ?_
          | refine T_istore (pc1 := 55) (pc := 53) k_M_firstBit_53 rfl (Nat.le_of_ble_eq_true rfl) ?_
          | refine T_aload_n (pc1 := 56) (pc := 55) k_M_firstBit_55 rfl rfl ?_
          | refine T_aload_nN (pc1 := 56) (pc := 55) k_M_firstBit_55 rfl rfl ?_
          | refine T_getR (pc1 := 59) (pc := 56) k_M_firstBit_56 rfl f_M_9 rfl (by first | exact ga G (by decide) rfl | assumption) (by first | exact gr G (by decide) rfl | assumption) ?_
          | refine T_iconst (v := (nI 5)) (pc1 := 60) (pc := 59) k_M_firstBit_59 rfl (by decide) ?_
          | refine T_ialdN (pc1 := 61) (pc := 60) k_M_firstBit_60 rfl (by first | exact ga G (by decide) rfl | assumption) (by omega) (by omega) (by first | assumption | (simp (disch := omega) only [pI_eq, pI_row, pI_col, va_up_self, va_up_ne, ne_eq, not_false_eq_true, hJN, h5] <;> rfl) | rfl) ?_
          | refine T_iald (pc1 := 61) (pc := 60) k_M_firstBit_60 rfl (by first | exact ga G (by decide) rfl | assumption) (by assumption) ?_
          | refine T_iconst (v := (nI 1)) (pc1 := 62) (pc := 61) k_M_firstBit_61 rfl (by decide) ?_
          | refine T_isub (pc1 := 63) (pc := 62) k_M_firstBit_62 rfl ?_
          | refine T_istore (pc1 := 65) (pc := 63) k_M_firstBit_63 rfl (Nat.le_of_ble_eq_true rfl) ?_
          | (with_reducible refine T_if_ltN (tgt := 144) (pc1 := 70) (pc := 67) k_M_firstBit_67 (by decide) (by decide) (by omega) ?_ <;> first | (exfalso; omega) | skip)
          | refine T_if_lt_t (tgt := 144) (pc := 67) k_M_firstBit_67 rfl (by decide) ?_
          | refine T_if_lt_f (tgt := 144) (pc1 := 70) (pc := 67) k_M_firstBit_67 rfl rfl (by decide) ?_
          | refine T_if_lt (tgt := 144) (pc1 := 70) (pc := 67) k_M_firstBit_67 rfl rfl (fun hc => ?_) (fun hc => ?_)
          | refine T_aload_n (pc1 := 71) (pc := 70) k_M_firstBit_70 rfl rfl ?_
          | refine T_aload_nN (pc1 := 71) (pc := 70) k_M_firstBit_70 rfl rfl ?_
          | refine T_getR (pc1 := 74) (pc := 71) k_M_firstBit_71 rfl f_M_22 rfl (by first | exact ga G (by decide) rfl | assumption) (by first | exact gr G (by decide) rfl | assumption) ?_
          | refine T_iload_n (pc1 := 75) (pc := 74) k_M_firstBit_74 rfl rfl ?_
          | refine T_ialdN (pc1 := 76) (pc := 75) k_M_firstBit_75 rfl (ga G (by decide) rfl) (by omega) (by omega) hat ?_
          | refine T_ldc (v := (nI 1000000)) (pc1 := 78) (pc := 76) k_M_firstBit_76 rfl c_M_163 ?_
          | (with_reducible refine T_icmp_geN (tgt := 144) (pc1 := 81) (pc := 78) k_M_firstBit_78 (by decide) (by decide) (by omega) (by omega) (fun hc => ?_) (fun hc => ?_) <;> first | (exfalso; omega) | skip)
          | refine T_icmp_ge_t (tgt := 144) (pc := 78) k_M_firstBit_78 rfl (by decide) ?_
          | refine T_icmp_ge_f (tgt := 144) (pc1 := 81) (pc := 78) k_M_firstBit_78 rfl rfl (by decide) ?_
          | refine T_icmp_ge (tgt := 144) (pc1 := 81) (pc := 78) k_M_firstBit_78 rfl rfl (fun hc => ?_) (fun hc => ?_)
          | refine T_aload_n (pc1 := 82) (pc := 81) k_M_firstBit_81 rfl rfl ?_
          | refine T_aload_nN (pc1 := 82) (pc := 81) k_M_firstBit_81 rfl rfl ?_
          | refine T_iload (pc1 := 84) (pc := 82) k_M_firstBit_82 rfl rfl ?_
          | refine T_iload_n (pc1 := 85) (pc := 84) k_M_firstBit_84 rfl rfl ?_
          | (refine T_cV (As := [_, _]) (d1 := 2) (pc1 := 88) (pc := 85) k_M_firstBit_85 rfl (by decide) (Nat.le_of_ble_eq_true rfl) rfl o_M_otherEnd l_M_168 rfl (by first | exact ga G (by decide) rfl | assumption) rfl (c_M_otherEnd G hJN ok (by omega) ha (fun v w1 w2 w3 => ?_)) <;> try dsimp only [psh])
          | refine T_istore (pc1 := 90) (pc := 88) k_M_firstBit_88 rfl (Nat.le_of_ble_eq_true rfl) ?_
          | refine T_iload (pc1 := 92) (pc := 90) k_M_firstBit_90 rfl rfl ?_
          | (with_reducible refine T_if_ltN (tgt := 134) (pc1 := 95) (pc := 92) k_M_firstBit_92 (by decide) (by decide) (by omega) ?_ <;> first | (exfalso; omega) | skip)
          | refine T_if_lt_t (tgt := 134) (pc := 92) k_M_firstBit_92 rfl (by decide) ?_
          | refine T_if_lt_f (tgt := 134) (pc1 := 95) (pc := 92) k_M_firstBit_92 rfl rfl (by decide) ?_
          | refine T_if_lt (tgt := 134) (pc1 := 95) (pc := 92) k_M_firstBit_92 rfl rfl (fun hc => ?_) (fun hc => ?_)
          | refine T_aload_n (pc1 := 96) (pc := 95) k_M_firstBit_95 rfl rfl ?_
          | refine T_aload_nN (pc1 := 96) (pc := 95) k_M_firstBit_95 rfl rfl ?_
          | refine T_getR (pc1 := 99) (pc := 96) k_M_firstBit_96 rfl f_M_19 rfl (by first | exact ga G (by decide) rfl | assumption) (by first | exact gr G (by decide) rfl | assumption) ?_
          | refine T_iload (pc1 := 101) (pc := 99) k_M_firstBit_99 rfl rfl ?_
          | refine T_ialdN (pc1 := 102) (pc := 101) k_M_firstBit_101 rfl (ga G (by decide) rfl) (by omega) (by omega) hcm ?_
          | (with_reducible refine T_if_leN (tgt := 134) (pc1 := 105) (pc := 102) k_M_firstBit_102 (by decide) (by decide) (by omega) (fun hc => ?_) (fun hc => ?_) <;> first | (exfalso; omega) | skip)
          | refine T_if_le_t (tgt := 134) (pc := 102) k_M_firstBit_102 rfl (by decide) ?_
          | refine T_if_le_f (tgt := 134) (pc1 := 105) (pc := 102) k_M_firstBit_102 rfl rfl (by decide) ?_
          | refine T_if_le (tgt := 134) (pc1 := 105) (pc := 102) k_M_firstBit_102 rfl rfl (fun hc => ?_) (fun hc => ?_)
          | refine T_aload_n (pc1 := 106) (pc := 105) k_M_firstBit_105 rfl rfl ?_
          | refine T_aload_nN (pc1 := 106) (pc := 105) k_M_firstBit_105 rfl rfl ?_
          | refine T_getR (pc1 := 109) (pc := 106) k_M_firstBit_106 rfl f_M_22 rfl (by first | exact ga G (by decide) rfl | assumption) (by first | exact gr G (by decide) rfl | assumption) ?_
          | refine T_iload (pc1 := 111) (pc := 109) k_M_firstBit_109 rfl rfl ?_
          | refine T_ialdN (pc1 := 112) (pc := 111) k_M_firstBit_111 rfl (ga G (by decide) rfl) (by omega) (by omega) (by first | exact v2 | exact v1) ?_
          | refine T_aload_n (pc1 := 113) (pc := 112) k_M_firstBit_112 rfl rfl ?_
          | refine T_aload_nN (pc1 := 113) (pc := 112) k_M_firstBit_112 rfl rfl ?_
          | refine T_getR (pc1 := 116) (pc := 113) k_M_firstBit_113 rfl f_M_19 rfl (by first | exact ga G (by decide) rfl | assumption) (by first | exact gr G (by decide) rfl | assumption) ?_
          | refine T_iload (pc1 := 118) (pc := 116) k_M_firstBit_116 rfl rfl ?_
          | refine T_ialdN (pc1 := 119) (pc := 118) k_M_firstBit_118 rfl (ga G (by decide) rfl) (by omega) (by omega) hcm ?_
          | with_reducible refine T_iaddN (pc1 := 120) (pc := 119) k_M_firstBit_119 (by decide) ?_
          | refine T_iadd (pc1 := 120) (pc := 119) k_M_firstBit_119 rfl ?_
          | refine T_aload_n (pc1 := 121) (pc := 120) k_M_firstBit_120 rfl rfl ?_
          | refine T_aload_nN (pc1 := 121) (pc := 120) k_M_firstBit_120 rfl rfl ?_
          | refine T_getR (pc1 := 124) (pc := 121) k_M_firstBit_121 rfl f_M_22 rfl (by first | exact ga G (by decide) rfl | assumption) (by first | exact gr G (by decide) rfl | assumption) ?_
          | refine T_iload_n (pc1 := 125) (pc := 124) k_M_firstBit_124 rfl rfl ?_
          | refine T_ialdN (pc1 := 126) (pc := 125) k_M_firstBit_125 rfl (ga G (by decide) rfl) (by omega) (by omega) hat ?_
          | (with_reducible refine T_icmp_neN (tgt := 134) (pc1 := 129) (pc := 126) k_M_firstBit_126 (by decide) (by decide) (by omega) (by omega) (fun hc => ?_) (fun hc => ?_) <;> first | (exfalso; omega) | skip)
          | refine T_icmp_ne_t (tgt := 134) (pc := 126) k_M_firstBit_126 rfl (by decide) ?_
          | refine T_icmp_ne_f (tgt := 134) (pc1 := 129) (pc := 126) k_M_firstBit_126 rfl rfl (by decide) ?_
          | refine T_icmp_ne (tgt := 134) (pc1 := 129) (pc := 126) k_M_firstBit_126 rfl rfl (fun hc => ?_) (fun hc => ?_)
          | refine T_iload (pc1 := 131) (pc := 129) k_M_firstBit_129 rfl rfl ?_
          | refine T_goto (tgt := 136) (pc := 131) k_M_firstBit_131 rfl ?_
          | refine T_iload (pc1 := 136) (pc := 134) k_M_firstBit_134 rfl rfl ?_
          | refine T_istore (pc1 := 138) (pc := 136) k_M_firstBit_136 rfl (Nat.le_of_ble_eq_true rfl) ?_
          | (refine T_iinc (v := (-1)) (pc1 := 141) (pc := 138) k_M_firstBit_138 rfl rfl (by decide) ?_; rw [hdec])
          | refine T_goto (tgt := 65) (pc := 141) k_M_firstBit_141 rfl ?_
          | refine T_iload (pc1 := 146) (pc := 144) k_M_firstBit_144 rfl rfl ?_
          | refine T_retI (pc := 146) k_M_firstBit_146 rfl (by first | rfl | decide | assumption) ?_)
        rw [pk_sub (show 1 ≤ n by omega)]
        repeat' (first
          | refine T_iconst (v := (nI 0)) (pc1 := 1) (pc := 0) k_M_firstBit_0 rfl (by decide) ?_
          | refine T_istore (pc1 := 3) (pc := 1) k_M_firstBit_1 rfl (Nat.le_of_ble_eq_true rfl) ?_
          | refine T_iload (pc1 := 5) (pc := 3) k_M_firstBit_3 rfl rfl ?_
          | refine T_aload_n (pc1 := 6) (pc := 5) k_M_firstBit_5 rfl rfl ?_
          | refine T_aload_nN (pc1 := 6) (pc := 5) k_M_firstBit_5 rfl rfl ?_
          | refine T_getR (pc1 := 9) (pc := 6) k_M_firstBit_6 rfl f_M_9 rfl (by first | exact ga G (by decide) rfl | assumption) (by first | exact gr G (by decide) rfl | assumption) ?_
          | refine T_iconst (v := (nI 5)) (pc1 := 10) (pc := 9) k_M_firstBit_9 rfl (by decide) ?_
          | refine T_ialdN (pc1 := 11) (pc := 10) k_M_firstBit_10 rfl (by first | exact ga G (by decide) rfl | assumption) (by omega) (by omega) (by first | assumption | (simp (disch := omega) only [pI_eq, pI_row, pI_col, va_up_self, va_up_ne, ne_eq, not_false_eq_true, hJN, h5] <;> rfl) | rfl) ?_
          | refine T_iald (pc1 := 11) (pc := 10) k_M_firstBit_10 rfl (by first | exact ga G (by decide) rfl | assumption) (by assumption) ?_
          | (with_reducible refine T_icmp_geN (tgt := 47) (pc1 := 14) (pc := 11) k_M_firstBit_11 (by decide) (by decide) (by omega) (by omega) (fun hc => ?_) (fun hc => ?_) <;> first | (exfalso; omega) | skip)
          | refine T_icmp_ge_t (tgt := 47) (pc := 11) k_M_firstBit_11 rfl (by decide) ?_
          | refine T_icmp_ge_f (tgt := 47) (pc1 := 14) (pc := 11) k_M_firstBit_11 rfl rfl (by decide) ?_
          | refine T_icmp_ge (tgt := 47) (pc1 := 14) (pc := 11) k_M_firstBit_11 rfl rfl (fun hc => ?_) (fun hc => ?_)
          | refine T_aload_n (pc1 := 15) (pc := 14) k_M_firstBit_14 rfl rfl ?_
          | refine T_aload_nN (pc1 := 15) (pc := 14) k_M_firstBit_14 rfl rfl ?_
          | refine T_getR (pc1 := 18) (pc := 15) k_M_firstBit_15 rfl f_M_19 rfl (by first | exact ga G (by decide) rfl | assumption) (by first | exact gr G (by decide) rfl | assumption) ?_
          | refine T_iload (pc1 := 20) (pc := 18) k_M_firstBit_18 rfl rfl ?_
          | refine T_iload_n (pc1 := 21) (pc := 20) k_M_firstBit_20 rfl rfl ?_
          | refine T_iload (pc1 := 23) (pc := 21) k_M_firstBit_21 rfl rfl ?_
          | refine T_ishr (pc1 := 24) (pc := 23) k_M_firstBit_23 rfl ?_
          | refine T_iconst (v := (nI 1)) (pc1 := 25) (pc := 24) k_M_firstBit_24 rfl (by decide) ?_
          | refine T_iand (pc1 := 26) (pc := 25) k_M_firstBit_25 rfl ?_
          | refine T_iconst (v := (nI 1)) (pc1 := 27) (pc := 26) k_M_firstBit_26 rfl (by decide) ?_
          | (with_reducible refine T_icmp_neN (tgt := 34) (pc1 := 30) (pc := 27) k_M_firstBit_27 (by decide) (by decide) (by omega) (by omega) (fun hc => ?_) (fun hc => ?_) <;> first | (exfalso; omega) | skip)
          | refine T_icmp_ne_t (tgt := 34) (pc := 27) k_M_firstBit_27 rfl (by decide) ?_
          | refine T_icmp_ne_f (tgt := 34) (pc1 := 30) (pc := 27) k_M_firstBit_27 rfl rfl (by decide) ?_
          | refine T_icmp_ne (tgt := 34) (pc1 := 30) (pc := 27) k_M_firstBit_27 rfl rfl (fun hc => ?_) (fun hc => ?_)
          | refine T_iconst (v := (nI 0)) (pc1 := 31) (pc := 30) k_M_firstBit_30 rfl (by decide) ?_
          | refine T_goto (tgt := 40) (pc := 31) k_M_firstBit_31 rfl ?_
          | refine T_aload_n (pc1 := 35) (pc := 34) k_M_firstBit_34 rfl rfl ?_
          | refine T_aload_nN (pc1 := 35) (pc := 34) k_M_firstBit_34 rfl rfl ?_
          | refine T_iload (pc1 := 37) (pc := 35) k_M_firstBit_35 rfl rfl ?_
          | (refine T_cV (As := [_]) (d1 := 3) (pc1 := 40) (pc := 37) k_M_firstBit_37 rfl (by decide) (Nat.le_of_ble_eq_true rfl) rfl o_M_thinks l_M_149 rfl (by first | exact ga G (by decide) rfl | assumption) rfl (c_M_thinks G (by assumption) (by assumption) (by assumption) (fun J hJ => ?_)) <;> try dsimp only [psh])
          | refine T_iastN (pc1 := 41) (pc := 40) k_M_firstBit_40 rfl (by first | exact ga G (by decide) rfl | assumption) (by omega) (by omega) ?_
          | refine T_iincN (b := 1) (pc1 := 44) (pc := 41) k_M_firstBit_41 rfl rfl (by decide) ?_
          | refine T_iinc (v := (nI 1)) (pc1 := 44) (pc := 41) k_M_firstBit_41 rfl rfl (by decide) ?_
          | refine T_goto (tgt := 3) (pc := 44) k_M_firstBit_44 rfl ?_
          | refine T_aload_n (pc1 := 48) (pc := 47) k_M_firstBit_47 rfl rfl ?_
          | refine T_aload_nN (pc1 := 48) (pc := 47) k_M_firstBit_47 rfl rfl ?_
          | refine T_iload_n (pc1 := 49) (pc := 48) k_M_firstBit_48 rfl rfl ?_
          | refine T_iconst (v := (-1)) (pc1 := 53) (pc := 52) k_M_firstBit_52 rfl (by decide) ?_
          | refine T_istore (pc1 := 55) (pc := 53) k_M_firstBit_53 rfl (Nat.le_of_ble_eq_true rfl) ?_
          | refine T_aload_n (pc1 := 56) (pc := 55) k_M_firstBit_55 rfl rfl ?_
          | refine T_aload_nN (pc1 := 56) (pc := 55) k_M_firstBit_55 rfl rfl ?_
          | refine T_getR (pc1 := 59) (pc := 56) k_M_firstBit_56 rfl f_M_9 rfl (by first | exact ga G (by decide) rfl | assumption) (by first | exact gr G (by decide) rfl | assumption) ?_
          | refine T_iconst (v := (nI 5)) (pc1 := 60) (pc := 59) k_M_firstBit_59 rfl (by decide) ?_
          | refine T_ialdN (pc1 := 61) (pc := 60) k_M_firstBit_60 rfl (by first | exact ga G (by decide) rfl | assumption) (by omega) (by omega) (by first | assumption | (simp (disch := omega) only [pI_eq, pI_row, pI_col, va_up_self, va_up_ne, ne_eq, not_false_eq_true, hJN, h5] <;> rfl) | rfl) ?_
          | refine T_iald (pc1 := 61) (pc := 60) k_M_firstBit_60 rfl (by first | exact ga G (by decide) rfl | assumption) (by assumption) ?_
          | refine T_iconst (v := (nI 1)) (pc1 := 62) (pc := 61) k_M_firstBit_61 rfl (by decide) ?_
          | refine T_isub (pc1 := 63) (pc := 62) k_M_firstBit_62 rfl ?_
          | refine T_istore (pc1 := 65) (pc := 63) k_M_firstBit_63 rfl (Nat.le_of_ble_eq_true rfl) ?_
          | refine T_iload (pc1 := 67) (pc := 65) k_M_firstBit_65 rfl rfl ?_
          | (with_reducible refine T_if_ltN (tgt := 144) (pc1 := 70) (pc := 67) k_M_firstBit_67 (by decide) (by decide) (by omega) ?_ <;> first | (exfalso; omega) | skip)
          | refine T_if_lt_t (tgt := 144) (pc := 67) k_M_firstBit_67 rfl (by decide) ?_
          | refine T_if_lt_f (tgt := 144) (pc1 := 70) (pc := 67) k_M_firstBit_67 rfl rfl (by decide) ?_
          | refine T_if_lt (tgt := 144) (pc1 := 70) (pc := 67) k_M_firstBit_67 rfl rfl (fun hc => ?_) (fun hc => ?_)
          | refine T_aload_n (pc1 := 71) (pc := 70) k_M_firstBit_70 rfl rfl ?_
          | refine T_aload_nN (pc1 := 71) (pc := 70) k_M_firstBit_70 rfl rfl ?_
          | refine T_getR (pc1 := 74) (pc := 71) k_M_firstBit_71 rfl f_M_22 rfl (by first | exact ga G (by decide) rfl | assumption) (by first | exact gr G (by decide) rfl | assumption) ?_
          | refine T_iload_n (pc1 := 75) (pc := 74) k_M_firstBit_74 rfl rfl ?_
          | refine T_ialdN (pc1 := 76) (pc := 75) k_M_firstBit_75 rfl (ga G (by decide) rfl) (by omega) (by omega) hat ?_
          | refine T_ldc (v := (nI 1000000)) (pc1 := 78) (pc := 76) k_M_firstBit_76 rfl c_M_163 ?_
          | (with_reducible refine T_icmp_geN (tgt := 144) (pc1 := 81) (pc := 78) k_M_firstBit_78 (by decide) (by decide) (by omega) (by omega) (fun hc => ?_) (fun hc => ?_) <;> first | (exfalso; omega) | skip)
          | refine T_icmp_ge_t (tgt := 144) (pc := 78) k_M_firstBit_78 rfl (by decide) ?_
          | refine T_icmp_ge_f (tgt := 144) (pc1 := 81) (pc := 78) k_M_firstBit_78 rfl rfl (by decide) ?_
          | refine T_icmp_ge (tgt := 144) (pc1 := 81) (pc := 78) k_M_firstBit_78 rfl rfl (fun hc => ?_) (fun hc => ?_)
          | refine T_aload_n (pc1 := 82) (pc := 81) k_M_firstBit_81 rfl rfl ?_
          | refine T_aload_nN (pc1 := 82) (pc := 81) k_M_firstBit_81 rfl rfl ?_
          | refine T_iload (pc1 := 84) (pc := 82) k_M_firstBit_82 rfl rfl ?_
          | refine T_iload_n (pc1 := 85) (pc := 84) k_M_firstBit_84 rfl rfl ?_
          | (refine T_cV (As := [_, _]) (d1 := 2) (pc1 := 88) (pc := 85) k_M_firstBit_85 rfl (by decide) (Nat.le_of_ble_eq_true rfl) rfl o_M_otherEnd l_M_168 rfl (by first | exact ga G (by decide) rfl | assumption) rfl (c_M_otherEnd G hJN ok (by omega) ha (fun v w1 w2 w3 => ?_)) <;> try dsimp only [psh])
          | refine T_istore (pc1 := 90) (pc := 88) k_M_firstBit_88 rfl (Nat.le_of_ble_eq_true rfl) ?_
          | refine T_iload (pc1 := 92) (pc := 90) k_M_firstBit_90 rfl rfl ?_
          | (with_reducible refine T_if_ltN (tgt := 134) (pc1 := 95) (pc := 92) k_M_firstBit_92 (by decide) (by decide) (by omega) ?_ <;> first | (exfalso; omega) | skip)
          | refine T_if_lt_t (tgt := 134) (pc := 92) k_M_firstBit_92 rfl (by decide) ?_
          | refine T_if_lt_f (tgt := 134) (pc1 := 95) (pc := 92) k_M_firstBit_92 rfl rfl (by decide) ?_
          | refine T_if_lt (tgt := 134) (pc1 := 95) (pc := 92) k_M_firstBit_92 rfl rfl (fun hc => ?_) (fun hc => ?_)
          | refine T_aload_n (pc1 := 96) (pc := 95) k_M_firstBit_95 rfl rfl ?_
          | refine T_aload_nN (pc1 := 96) (pc := 95) k_M_firstBit_95 rfl rfl ?_
          | refine T_getR (pc1 := 99) (pc := 96) k_M_firstBit_96 rfl f_M_19 rfl (by first | exact ga G (by decide) rfl | assumption) (by first | exact gr G (by decide) rfl | assumption) ?_
          | refine T_iload (pc1 := 101) (pc := 99) k_M_firstBit_99 rfl rfl ?_
          | refine T_ialdN (pc1 := 102) (pc := 101) k_M_firstBit_101 rfl (ga G (by decide) rfl) (by omega) (by omega) hcm ?_
          | (with_reducible refine T_if_leN (tgt := 134) (pc1 := 105) (pc := 102) k_M_firstBit_102 (by decide) (by decide) (by omega) (fun hc => ?_) (fun hc => ?_) <;> first | (exfalso; omega) | skip)
          | refine T_if_le_t (tgt := 134) (pc := 102) k_M_firstBit_102 rfl (by decide) ?_
          | refine T_if_le_f (tgt := 134) (pc1 := 105) (pc := 102) k_M_firstBit_102 rfl rfl (by decide) ?_
          | refine T_if_le (tgt := 134) (pc1 := 105) (pc := 102) k_M_firstBit_102 rfl rfl (fun hc => ?_) (fun hc => ?_)
          | refine T_aload_n (pc1 := 106) (pc := 105) k_M_firstBit_105 rfl rfl ?_
          | refine T_aload_nN (pc1 := 106) (pc := 105) k_M_firstBit_105 rfl rfl ?_
          | refine T_getR (pc1 := 109) (pc := 106) k_M_firstBit_106 rfl f_M_22 rfl (by first | exact ga G (by decide) rfl | assumption) (by first | exact gr G (by decide) rfl | assumption) ?_
          | refine T_iload (pc1 := 111) (pc := 109) k_M_firstBit_109 rfl rfl ?_
          | refine T_ialdN (pc1 := 112) (pc := 111) k_M_firstBit_111 rfl (ga G (by decide) rfl) (by omega) (by omega) (by first | exact v2 | exact v1) ?_
          | refine T_aload_n (pc1 := 113) (pc := 112) k_M_firstBit_112 rfl rfl ?_
          | refine T_aload_nN (pc1 := 113) (pc := 112) k_M_firstBit_112 rfl rfl ?_
          | refine T_getR (pc1 := 116) (pc := 113) k_M_firstBit_113 rfl f_M_19 rfl (by first | exact ga G (by decide) rfl | assumption) (by first | exact gr G (by decide) rfl | assumption) ?_
          | refine T_iload (pc1 := 118) (pc := 116) k_M_firstBit_116 rfl rfl ?_
          | refine T_ialdN (pc1 := 119) (pc := 118) k_M_firstBit_118 rfl (ga G (by decide) rfl) (by omega) (by omega) hcm ?_
          | with_reducible refine T_iaddN (pc1 := 120) (pc := 119) k_M_firstBit_119 (by decide) ?_
          | refine T_iadd (pc1 := 120) (pc := 119) k_M_firstBit_119 rfl ?_
          | refine T_aload_n (pc1 := 121) (pc := 120) k_M_firstBit_120 rfl rfl ?_
          | refine T_aload_nN (pc1 := 121) (pc := 120) k_M_firstBit_120 rfl rfl ?_
          | refine T_getR (pc1 := 124) (pc := 121) k_M_firstBit_121 rfl f_M_22 rfl (by first | exact ga G (by decide) rfl | assumption) (by first | exact gr G (by decide) rfl | assumption) ?_
          | refine T_iload_n (pc1 := 125) (pc := 124) k_M_firstBit_124 rfl rfl ?_
          | refine T_ialdN (pc1 := 126) (pc := 125) k_M_firstBit_125 rfl (ga G (by decide) rfl) (by omega) (by omega) hat ?_
          | (with_reducible refine T_icmp_neN (tgt := 134) (pc1 := 129) (pc := 126) k_M_firstBit_126 (by decide) (by decide) (by omega) (by omega) (fun hc => ?_) (fun hc => ?_) <;> first | (exfalso; omega) | skip)
          | refine T_icmp_ne_t (tgt := 134) (pc := 126) k_M_firstBit_126 rfl (by decide) ?_
          | refine T_icmp_ne_f (tgt := 134) (pc1 := 129) (pc := 126) k_M_firstBit_126 rfl rfl (by decide) ?_
          | refine T_icmp_ne (tgt := 134) (pc1 := 129) (pc := 126) k_M_firstBit_126 rfl rfl (fun hc => ?_) (fun hc => ?_)
          | refine T_iload (pc1 := 131) (pc := 129) k_M_firstBit_129 rfl rfl ?_
          | refine T_goto (tgt := 136) (pc := 131) k_M_firstBit_131 rfl ?_
          | refine T_iload (pc1 := 136) (pc := 134) k_M_firstBit_134 rfl rfl ?_
          | refine T_istore (pc1 := 138) (pc := 136) k_M_firstBit_136 rfl (Nat.le_of_ble_eq_true rfl) ?_
          | (refine T_iinc (v := (-1)) (pc1 := 141) (pc := 138) k_M_firstBit_138 rfl rfl (by decide) ?_; rw [hdec])
          | refine T_goto (tgt := 65) (pc := 141) k_M_firstBit_141 rfl ?_
          | refine T_iload (pc1 := 146) (pc := 144) k_M_firstBit_144 rfl rfl ?_
          | refine T_retI (pc := 146) k_M_firstBit_146 rfl (by first | rfl | decide | assumption) ?_)
        exact k2
  have fill : ∀ q b (J : IM), b + q = n → eqx [105, 106, 112, 113] I J → (∀ j, j < b → J 105 j = nI (cst N tn F j)) → Rl 4 M_M_firstBit 3 [some (.ref 101), some (.int (nI at0)), some (.int (nI to0)), some (.int (nI F)), some (.int (nI b)), none, none] [] g J K := by
    intro q
    induction q with
    | zero =>
      intro b J hb hJ hcs
      have hb : b = n := by omega
      subst hb
      have hJN : J 102 = N := (hJ 102 (by decide)).trans hN
      repeat' (first
        | refine T_iconst (v := (nI 0)) (pc1 := 1) (pc := 0) k_M_firstBit_0 rfl (by decide) ?_
        | refine T_istore (pc1 := 3) (pc := 1) k_M_firstBit_1 rfl (Nat.le_of_ble_eq_true rfl) ?_
        | refine T_iload (pc1 := 5) (pc := 3) k_M_firstBit_3 rfl rfl ?_
        | refine T_aload_n (pc1 := 6) (pc := 5) k_M_firstBit_5 rfl rfl ?_
        | refine T_aload_nN (pc1 := 6) (pc := 5) k_M_firstBit_5 rfl rfl ?_
        | refine T_getR (pc1 := 9) (pc := 6) k_M_firstBit_6 rfl f_M_9 rfl (by first | exact ga G (by decide) rfl | assumption) (by first | exact gr G (by decide) rfl | assumption) ?_
        | refine T_iconst (v := (nI 5)) (pc1 := 10) (pc := 9) k_M_firstBit_9 rfl (by decide) ?_
        | refine T_ialdN (pc1 := 11) (pc := 10) k_M_firstBit_10 rfl (by first | exact ga G (by decide) rfl | assumption) (by omega) (by omega) (by first | assumption | (simp (disch := omega) only [pI_eq, pI_row, pI_col, va_up_self, va_up_ne, ne_eq, not_false_eq_true, hJN, h5] <;> rfl) | rfl) ?_
        | refine T_iald (pc1 := 11) (pc := 10) k_M_firstBit_10 rfl (by first | exact ga G (by decide) rfl | assumption) (by assumption) ?_
        | (with_reducible refine T_icmp_geN (tgt := 47) (pc1 := 14) (pc := 11) k_M_firstBit_11 (by decide) (by decide) (by omega) (by omega) (fun hc => ?_) (fun hc => ?_) <;> first | (exfalso; omega) | skip)
        | refine T_icmp_ge_t (tgt := 47) (pc := 11) k_M_firstBit_11 rfl (by decide) ?_
        | refine T_icmp_ge_f (tgt := 47) (pc1 := 14) (pc := 11) k_M_firstBit_11 rfl rfl (by decide) ?_
        | refine T_icmp_ge (tgt := 47) (pc1 := 14) (pc := 11) k_M_firstBit_11 rfl rfl (fun hc => ?_) (fun hc => ?_)
        | refine T_aload_n (pc1 := 15) (pc := 14) k_M_firstBit_14 rfl rfl ?_
        | refine T_aload_nN (pc1 := 15) (pc := 14) k_M_firstBit_14 rfl rfl ?_
        | refine T_getR (pc1 := 18) (pc := 15) k_M_firstBit_15 rfl f_M_19 rfl (by first | exact ga G (by decide) rfl | assumption) (by first | exact gr G (by decide) rfl | assumption) ?_
        | refine T_iload (pc1 := 20) (pc := 18) k_M_firstBit_18 rfl rfl ?_
        | refine T_iload_n (pc1 := 21) (pc := 20) k_M_firstBit_20 rfl rfl ?_
        | refine T_iload (pc1 := 23) (pc := 21) k_M_firstBit_21 rfl rfl ?_
        | refine T_ishr (pc1 := 24) (pc := 23) k_M_firstBit_23 rfl ?_
        | refine T_iconst (v := (nI 1)) (pc1 := 25) (pc := 24) k_M_firstBit_24 rfl (by decide) ?_
        | refine T_iand (pc1 := 26) (pc := 25) k_M_firstBit_25 rfl ?_
        | refine T_iconst (v := (nI 1)) (pc1 := 27) (pc := 26) k_M_firstBit_26 rfl (by decide) ?_
        | (with_reducible refine T_icmp_neN (tgt := 34) (pc1 := 30) (pc := 27) k_M_firstBit_27 (by decide) (by decide) (by omega) (by omega) (fun hc => ?_) (fun hc => ?_) <;> first | (exfalso; omega) | skip)
        | refine T_icmp_ne_t (tgt := 34) (pc := 27) k_M_firstBit_27 rfl (by decide) ?_
        | refine T_icmp_ne_f (tgt := 34) (pc1 := 30) (pc := 27) k_M_firstBit_27 rfl rfl (by decide) ?_
        | refine T_icmp_ne (tgt := 34) (pc1 := 30) (pc := 27) k_M_firstBit_27 rfl rfl (fun hc => ?_) (fun hc => ?_)
        | refine T_iconst (v := (nI 0)) (pc1 := 31) (pc := 30) k_M_firstBit_30 rfl (by decide) ?_
        | refine T_goto (tgt := 40) (pc := 31) k_M_firstBit_31 rfl ?_
        | refine T_aload_n (pc1 := 35) (pc := 34) k_M_firstBit_34 rfl rfl ?_
        | refine T_aload_nN (pc1 := 35) (pc := 34) k_M_firstBit_34 rfl rfl ?_
        | refine T_iload (pc1 := 37) (pc := 35) k_M_firstBit_35 rfl rfl ?_
        | (refine T_cV (As := [_]) (d1 := 3) (pc1 := 40) (pc := 37) k_M_firstBit_37 rfl (by decide) (Nat.le_of_ble_eq_true rfl) rfl o_M_thinks l_M_149 rfl (by first | exact ga G (by decide) rfl | assumption) rfl (c_M_thinks G (by assumption) (by assumption) (by assumption) (fun J hJ => ?_)) <;> try dsimp only [psh])
        | refine T_iastN (pc1 := 41) (pc := 40) k_M_firstBit_40 rfl (by first | exact ga G (by decide) rfl | assumption) (by omega) (by omega) ?_
        | refine T_iincN (b := 1) (pc1 := 44) (pc := 41) k_M_firstBit_41 rfl rfl (by decide) ?_
        | refine T_iinc (v := (nI 1)) (pc1 := 44) (pc := 41) k_M_firstBit_41 rfl rfl (by decide) ?_
        | refine T_goto (tgt := 3) (pc := 44) k_M_firstBit_44 rfl ?_
        | refine T_aload_n (pc1 := 48) (pc := 47) k_M_firstBit_47 rfl rfl ?_
        | refine T_aload_nN (pc1 := 48) (pc := 47) k_M_firstBit_47 rfl rfl ?_
        | refine T_iload_n (pc1 := 49) (pc := 48) k_M_firstBit_48 rfl rfl ?_
        | refine T_iconst (v := (-1)) (pc1 := 53) (pc := 52) k_M_firstBit_52 rfl (by decide) ?_
        | refine T_istore (pc1 := 55) (pc := 53) k_M_firstBit_53 rfl (Nat.le_of_ble_eq_true rfl) ?_
        | refine T_aload_n (pc1 := 56) (pc := 55) k_M_firstBit_55 rfl rfl ?_
        | refine T_aload_nN (pc1 := 56) (pc := 55) k_M_firstBit_55 rfl rfl ?_
        | refine T_getR (pc1 := 59) (pc := 56) k_M_firstBit_56 rfl f_M_9 rfl (by first | exact ga G (by decide) rfl | assumption) (by first | exact gr G (by decide) rfl | assumption) ?_
        | refine T_iconst (v := (nI 5)) (pc1 := 60) (pc := 59) k_M_firstBit_59 rfl (by decide) ?_
        | refine T_ialdN (pc1 := 61) (pc := 60) k_M_firstBit_60 rfl (by first | exact ga G (by decide) rfl | assumption) (by omega) (by omega) (by first | assumption | (simp (disch := omega) only [pI_eq, pI_row, pI_col, va_up_self, va_up_ne, ne_eq, not_false_eq_true, hJN, h5] <;> rfl) | rfl) ?_
        | refine T_iald (pc1 := 61) (pc := 60) k_M_firstBit_60 rfl (by first | exact ga G (by decide) rfl | assumption) (by assumption) ?_
        | refine T_iconst (v := (nI 1)) (pc1 := 62) (pc := 61) k_M_firstBit_61 rfl (by decide) ?_
        | refine T_isub (pc1 := 63) (pc := 62) k_M_firstBit_62 rfl ?_
        | refine T_istore (pc1 := 65) (pc := 63) k_M_firstBit_63 rfl (Nat.le_of_ble_eq_true rfl) ?_
        | refine T_iload (pc1 := 67) (pc := 65) k_M_firstBit_65 rfl rfl ?_
        | (with_reducible refine T_if_ltN (tgt := 144) (pc1 := 70) (pc := 67) k_M_firstBit_67 (by decide) (by decide) (by omega) ?_ <;> first | (exfalso; omega) | skip)
        | refine T_if_lt_t (tgt := 144) (pc := 67) k_M_firstBit_67 rfl (by decide) ?_
        | refine T_if_lt_f (tgt := 144) (pc1 := 70) (pc := 67) k_M_firstBit_67 rfl rfl (by decide) ?_
        | refine T_if_lt (tgt := 144) (pc1 := 70) (pc := 67) k_M_firstBit_67 rfl rfl (fun hc => ?_) (fun hc => ?_)
        | refine T_aload_n (pc1 := 71) (pc := 70) k_M_firstBit_70 rfl rfl ?_
        | refine T_aload_nN (pc1 := 71) (pc := 70) k_M_firstBit_70 rfl rfl ?_
        | refine T_getR (pc1 := 74) (pc := 71) k_M_firstBit_71 rfl f_M_22 rfl (by first | exact ga G (by decide) rfl | assumption) (by first | exact gr G (by decide) rfl | assumption) ?_
        | refine T_iload_n (pc1 := 75) (pc := 74) k_M_firstBit_74 rfl rfl ?_
        | refine T_ialdN (pc1 := 76) (pc := 75) k_M_firstBit_75 rfl (ga G (by decide) rfl) (by omega) (by omega) hat ?_
        | refine T_ldc (v := (nI 1000000)) (pc1 := 78) (pc := 76) k_M_firstBit_76 rfl c_M_163 ?_
        | (with_reducible refine T_icmp_geN (tgt := 144) (pc1 := 81) (pc := 78) k_M_firstBit_78 (by decide) (by decide) (by omega) (by omega) (fun hc => ?_) (fun hc => ?_) <;> first | (exfalso; omega) | skip)
        | refine T_icmp_ge_t (tgt := 144) (pc := 78) k_M_firstBit_78 rfl (by decide) ?_
        | refine T_icmp_ge_f (tgt := 144) (pc1 := 81) (pc := 78) k_M_firstBit_78 rfl rfl (by decide) ?_
        | refine T_icmp_ge (tgt := 144) (pc1 := 81) (pc := 78) k_M_firstBit_78 rfl rfl (fun hc => ?_) (fun hc => ?_)
        | refine T_aload_n (pc1 := 82) (pc := 81) k_M_firstBit_81 rfl rfl ?_
        | refine T_aload_nN (pc1 := 82) (pc := 81) k_M_firstBit_81 rfl rfl ?_
        | refine T_iload (pc1 := 84) (pc := 82) k_M_firstBit_82 rfl rfl ?_
        | refine T_iload_n (pc1 := 85) (pc := 84) k_M_firstBit_84 rfl rfl ?_
        | (refine T_cV (As := [_, _]) (d1 := 2) (pc1 := 88) (pc := 85) k_M_firstBit_85 rfl (by decide) (Nat.le_of_ble_eq_true rfl) rfl o_M_otherEnd l_M_168 rfl (by first | exact ga G (by decide) rfl | assumption) rfl (c_M_otherEnd G hJN ok (by omega) ha (fun v w1 w2 w3 => ?_)) <;> try dsimp only [psh])
        | refine T_istore (pc1 := 90) (pc := 88) k_M_firstBit_88 rfl (Nat.le_of_ble_eq_true rfl) ?_
        | refine T_iload (pc1 := 92) (pc := 90) k_M_firstBit_90 rfl rfl ?_
        | (with_reducible refine T_if_ltN (tgt := 134) (pc1 := 95) (pc := 92) k_M_firstBit_92 (by decide) (by decide) (by omega) ?_ <;> first | (exfalso; omega) | skip)
        | refine T_if_lt_t (tgt := 134) (pc := 92) k_M_firstBit_92 rfl (by decide) ?_
        | refine T_if_lt_f (tgt := 134) (pc1 := 95) (pc := 92) k_M_firstBit_92 rfl rfl (by decide) ?_
        | refine T_if_lt (tgt := 134) (pc1 := 95) (pc := 92) k_M_firstBit_92 rfl rfl (fun hc => ?_) (fun hc => ?_)
        | refine T_aload_n (pc1 := 96) (pc := 95) k_M_firstBit_95 rfl rfl ?_
        | refine T_aload_nN (pc1 := 96) (pc := 95) k_M_firstBit_95 rfl rfl ?_
        | refine T_getR (pc1 := 99) (pc := 96) k_M_firstBit_96 rfl f_M_19 rfl (by first | exact ga G (by decide) rfl | assumption) (by first | exact gr G (by decide) rfl | assumption) ?_
        | refine T_iload (pc1 := 101) (pc := 99) k_M_firstBit_99 rfl rfl ?_
        | refine T_ialdN (pc1 := 102) (pc := 101) k_M_firstBit_101 rfl (ga G (by decide) rfl) (by omega) (by omega) hcm ?_
        | (with_reducible refine T_if_leN (tgt := 134) (pc1 := 105) (pc := 102) k_M_firstBit_102 (by decide) (by decide) (by omega) (fun hc => ?_) (fun hc => ?_) <;> first | (exfalso; omega) | skip)
        | refine T_if_le_t (tgt := 134) (pc := 102) k_M_firstBit_102 rfl (by decide) ?_
        | refine T_if_le_f (tgt := 134) (pc1 := 105) (pc := 102) k_M_firstBit_102 rfl rfl (by decide) ?_
        | refine T_if_le (tgt := 134) (pc1 := 105) (pc := 102) k_M_firstBit_102 rfl rfl (fun hc => ?_) (fun hc => ?_)
        | refine T_aload_n (pc1 := 106) (pc := 105) k_M_firstBit_105 rfl rfl ?_
        | refine T_aload_nN (pc1 := 106) (pc := 105) k_M_firstBit_105 rfl rfl ?_
        | refine T_getR (pc1 := 109) (pc := 106) k_M_firstBit_106 rfl f_M_22 rfl (by first | exact ga G (by decide) rfl | assumption) (by first | exact gr G (by decide) rfl | assumption) ?_
        | refine T_iload (pc1 := 111) (pc := 109) k_M_firstBit_109 rfl rfl ?_
        | refine T_ialdN (pc1 := 112) (pc := 111) k_M_firstBit_111 rfl (ga G (by decide) rfl) (by omega) (by omega) (by first | exact v2 | exact v1) ?_
        | refine T_aload_n (pc1 := 113) (pc := 112) k_M_firstBit_112 rfl rfl ?_
        | refine T_aload_nN (pc1 := 113) (pc := 112) k_M_firstBit_112 rfl rfl ?_
        | refine T_getR (pc1 := 116) (pc := 113) k_M_firstBit_113 rfl f_M_19 rfl (by first | exact ga G (by decide) rfl | assumption) (by first | exact gr G (by decide) rfl | assumption) ?_
        | refine T_iload (pc1 := 118) (pc := 116) k_M_firstBit_116 rfl rfl ?_
        | refine T_ialdN (pc1 := 119) (pc := 118) k_M_firstBit_118 rfl (ga G (by decide) rfl) (by omega) (by omega) hcm ?_
        | with_reducible refine T_iaddN (pc1 := 120) (pc := 119) k_M_firstBit_119 (by decide) ?_
        | refine T_iadd (pc1 := 120) (pc := 119) k_M_firstBit_119 rfl ?_
        | refine T_aload_n (pc1 := 121) (pc := 120) k_M_firstBit_120 rfl rfl ?_
        | refine T_aload_nN (pc1 := 121) (pc := 120) k_M_firstBit_120 rfl rfl ?_
        | refine T_getR (pc1 := 124) (pc := 121) k_M_firstBit_121 rfl f_M_22 rfl (by first | exact ga G (by decide) rfl | assumption) (by first | exact gr G (by decide) rfl | assumption) ?_
        | refine T_iload_n (pc1 := 125) (pc := 124) k_M_firstBit_124 rfl rfl ?_
        | refine T_ialdN (pc1 := 126) (pc := 125) k_M_firstBit_125 rfl (ga G (by decide) rfl) (by omega) (by omega) hat ?_
        | (with_reducible refine T_icmp_neN (tgt := 134) (pc1 := 129) (pc := 126) k_M_firstBit_126 (by decide) (by decide) (by omega) (by omega) (fun hc => ?_) (fun hc => ?_) <;> first | (exfalso; omega) | skip)
        | refine T_icmp_ne_t (tgt := 134) (pc := 126) k_M_firstBit_126 rfl (by decide) ?_
        | refine T_icmp_ne_f (tgt := 134) (pc1 := 129) (pc := 126) k_M_firstBit_126 rfl rfl (by decide) ?_
        | refine T_icmp_ne (tgt := 134) (pc1 := 129) (pc := 126) k_M_firstBit_126 rfl rfl (fun hc => ?_) (fun hc => ?_)
        | refine T_iload (pc1 := 131) (pc := 129) k_M_firstBit_129 rfl rfl ?_
        | refine T_goto (tgt := 136) (pc := 131) k_M_firstBit_131 rfl ?_
        | refine T_iload (pc1 := 136) (pc := 134) k_M_firstBit_134 rfl rfl ?_
        | refine T_istore (pc1 := 138) (pc := 136) k_M_firstBit_136 rfl (Nat.le_of_ble_eq_true rfl) ?_
        | (refine T_iinc (v := (-1)) (pc1 := 141) (pc := 138) k_M_firstBit_138 rfl rfl (by decide) ?_; rw [hdec])
        | refine T_goto (tgt := 65) (pc := 141) k_M_firstBit_141 rfl ?_
        | refine T_iload (pc1 := 146) (pc := 144) k_M_firstBit_144 rfl rfl ?_
        | refine T_retI (pc := 146) k_M_firstBit_146 rfl (by first | rfl | decide | assumption) ?_)
      (refine T_cV (As := [_]) (d1 := 2) (pc1 := 52) (pc := 49) k_M_firstBit_49 rfl (by decide) (Nat.le_of_ble_eq_true rfl) rfl o_M_findFar l_M_164 rfl (by first | exact ga G (by decide) rfl | assumption) rfl (c_M_findFar (c := cst N tn F) G hJN ok ht hcs (fun b hb => cst_le ok hb) (fun J1 hJ1 hv => ?_)) <;> try dsimp only [psh])
      exact last J1 (eqx_tr hJ (eqx_mono hJ1 (by decide))) (fun b hb => by rw [hJ1 105 (by decide)]; exact hcs b hb) hv _ _
    | succ q ih =>
      intro b J hb hJ hcs
      have hJN : J 102 = N := (hJ 102 (by decide)).trans hN
      have hbn : b < n := by omega
      refine T_iload (pc1 := 5) (pc := 3) k_M_firstBit_3 rfl rfl ?_
      repeat' (first
        | refine T_iconst (v := (nI 0)) (pc1 := 1) (pc := 0) k_M_firstBit_0 rfl (by decide) ?_
        | refine T_istore (pc1 := 3) (pc := 1) k_M_firstBit_1 rfl (Nat.le_of_ble_eq_true rfl) ?_
        | refine T_aload_n (pc1 := 6) (pc := 5) k_M_firstBit_5 rfl rfl ?_
        | refine T_aload_nN (pc1 := 6) (pc := 5) k_M_firstBit_5 rfl rfl ?_
        | refine T_getR (pc1 := 9) (pc := 6) k_M_firstBit_6 rfl f_M_9 rfl (by first | exact ga G (by decide) rfl | assumption) (by first | exact gr G (by decide) rfl | assumption) ?_
        | refine T_iconst (v := (nI 5)) (pc1 := 10) (pc := 9) k_M_firstBit_9 rfl (by decide) ?_
        | refine T_ialdN (pc1 := 11) (pc := 10) k_M_firstBit_10 rfl (by first | exact ga G (by decide) rfl | assumption) (by omega) (by omega) (by first | assumption | (simp (disch := omega) only [pI_eq, pI_row, pI_col, va_up_self, va_up_ne, ne_eq, not_false_eq_true, hJN, h5] <;> rfl) | rfl) ?_
        | refine T_iald (pc1 := 11) (pc := 10) k_M_firstBit_10 rfl (by first | exact ga G (by decide) rfl | assumption) (by assumption) ?_
        | (with_reducible refine T_icmp_geN (tgt := 47) (pc1 := 14) (pc := 11) k_M_firstBit_11 (by decide) (by decide) (by omega) (by omega) (fun hc => ?_) (fun hc => ?_) <;> first | (exfalso; omega) | skip)
        | refine T_icmp_ge_t (tgt := 47) (pc := 11) k_M_firstBit_11 rfl (by decide) ?_
        | refine T_icmp_ge_f (tgt := 47) (pc1 := 14) (pc := 11) k_M_firstBit_11 rfl rfl (by decide) ?_
        | refine T_icmp_ge (tgt := 47) (pc1 := 14) (pc := 11) k_M_firstBit_11 rfl rfl (fun hc => ?_) (fun hc => ?_)
        | refine T_aload_n (pc1 := 15) (pc := 14) k_M_firstBit_14 rfl rfl ?_
        | refine T_aload_nN (pc1 := 15) (pc := 14) k_M_firstBit_14 rfl rfl ?_
        | refine T_getR (pc1 := 18) (pc := 15) k_M_firstBit_15 rfl f_M_19 rfl (by first | exact ga G (by decide) rfl | assumption) (by first | exact gr G (by decide) rfl | assumption) ?_
        | refine T_iload (pc1 := 20) (pc := 18) k_M_firstBit_18 rfl rfl ?_
        | refine T_iload_n (pc1 := 21) (pc := 20) k_M_firstBit_20 rfl rfl ?_
        | refine T_iload (pc1 := 23) (pc := 21) k_M_firstBit_21 rfl rfl ?_
        | refine T_ishr (pc1 := 24) (pc := 23) k_M_firstBit_23 rfl ?_
        | refine T_iconst (v := (nI 1)) (pc1 := 25) (pc := 24) k_M_firstBit_24 rfl (by decide) ?_
        | refine T_iand (pc1 := 26) (pc := 25) k_M_firstBit_25 rfl ?_
        | (with_reducible refine T_icmp_neN (tgt := 34) (pc1 := 30) (pc := 27) k_M_firstBit_27 (by decide) (by decide) (by omega) (by omega) (fun hc => ?_) (fun hc => ?_) <;> first | (exfalso; omega) | skip)
        | refine T_icmp_ne_t (tgt := 34) (pc := 27) k_M_firstBit_27 rfl (by decide) ?_
        | refine T_icmp_ne_f (tgt := 34) (pc1 := 30) (pc := 27) k_M_firstBit_27 rfl rfl (by decide) ?_
        | refine T_icmp_ne (tgt := 34) (pc1 := 30) (pc := 27) k_M_firstBit_27 rfl rfl (fun hc => ?_) (fun hc => ?_)
        | refine T_iconst (v := (nI 0)) (pc1 := 31) (pc := 30) k_M_firstBit_30 rfl (by decide) ?_
        | refine T_goto (tgt := 40) (pc := 31) k_M_firstBit_31 rfl ?_
        | refine T_aload_n (pc1 := 35) (pc := 34) k_M_firstBit_34 rfl rfl ?_
        | refine T_aload_nN (pc1 := 35) (pc := 34) k_M_firstBit_34 rfl rfl ?_
        | refine T_iload (pc1 := 37) (pc := 35) k_M_firstBit_35 rfl rfl ?_
        | (refine T_cV (As := [_]) (d1 := 3) (pc1 := 40) (pc := 37) k_M_firstBit_37 rfl (by decide) (Nat.le_of_ble_eq_true rfl) rfl o_M_thinks l_M_149 rfl (by first | exact ga G (by decide) rfl | assumption) rfl (c_M_thinksN G hJN ok hbn (fun J1 hJ1 => ?_)) <;> try dsimp only [psh])
        | refine T_iastN (pc1 := 41) (pc := 40) k_M_firstBit_40 rfl (by first | exact ga G (by decide) rfl | assumption) (by omega) (by omega) ?_
        | refine T_iincN (b := 1) (pc1 := 44) (pc := 41) k_M_firstBit_41 rfl rfl (by decide) ?_
        | refine T_iinc (v := (nI 1)) (pc1 := 44) (pc := 41) k_M_firstBit_41 rfl rfl (by decide) ?_
        | refine T_goto (tgt := 3) (pc := 44) k_M_firstBit_44 rfl ?_
        | refine T_aload_n (pc1 := 48) (pc := 47) k_M_firstBit_47 rfl rfl ?_
        | refine T_aload_nN (pc1 := 48) (pc := 47) k_M_firstBit_47 rfl rfl ?_
        | refine T_iload_n (pc1 := 49) (pc := 48) k_M_firstBit_48 rfl rfl ?_
        | (refine T_cV (As := [_]) (d1 := 2) (pc1 := 52) (pc := 49) k_M_firstBit_49 rfl (by decide) (Nat.le_of_ble_eq_true rfl) rfl o_M_findFar l_M_164 rfl (by first | exact ga G (by decide) rfl | assumption) rfl (c_M_findFar (c := cst N tn F) G hJN ok ht hcs (fun b hb => cst_le ok hb) (fun J1 hJ1 hv => ?_)) <;> try dsimp only [psh])
        | refine T_iconst (v := (-1)) (pc1 := 53) (pc := 52) k_M_firstBit_52 rfl (by decide) ?_
        | refine T_istore (pc1 := 55) (pc := 53) k_M_firstBit_53 rfl (Nat.le_of_ble_eq_true rfl) ?_
        | refine T_aload_n (pc1 := 56) (pc := 55) k_M_firstBit_55 rfl rfl ?_
        | refine T_aload_nN (pc1 := 56) (pc := 55) k_M_firstBit_55 rfl rfl ?_
        | refine T_getR (pc1 := 59) (pc := 56) k_M_firstBit_56 rfl f_M_9 rfl (by first | exact ga G (by decide) rfl | assumption) (by first | exact gr G (by decide) rfl | assumption) ?_
        | refine T_iconst (v := (nI 5)) (pc1 := 60) (pc := 59) k_M_firstBit_59 rfl (by decide) ?_
        | refine T_ialdN (pc1 := 61) (pc := 60) k_M_firstBit_60 rfl (by first | exact ga G (by decide) rfl | assumption) (by omega) (by omega) (by first | assumption | (simp (disch := omega) only [pI_eq, pI_row, pI_col, va_up_self, va_up_ne, ne_eq, not_false_eq_true, hJN, h5] <;> rfl) | rfl) ?_
        | refine T_iald (pc1 := 61) (pc := 60) k_M_firstBit_60 rfl (by first | exact ga G (by decide) rfl | assumption) (by assumption) ?_
        | refine T_iconst (v := (nI 1)) (pc1 := 62) (pc := 61) k_M_firstBit_61 rfl (by decide) ?_
        | refine T_isub (pc1 := 63) (pc := 62) k_M_firstBit_62 rfl ?_
        | refine T_istore (pc1 := 65) (pc := 63) k_M_firstBit_63 rfl (Nat.le_of_ble_eq_true rfl) ?_
        | refine T_iload (pc1 := 67) (pc := 65) k_M_firstBit_65 rfl rfl ?_
        | (with_reducible refine T_if_ltN (tgt := 144) (pc1 := 70) (pc := 67) k_M_firstBit_67 (by decide) (by decide) (by omega) ?_ <;> first | (exfalso; omega) | skip)
        | refine T_if_lt_t (tgt := 144) (pc := 67) k_M_firstBit_67 rfl (by decide) ?_
        | refine T_if_lt_f (tgt := 144) (pc1 := 70) (pc := 67) k_M_firstBit_67 rfl rfl (by decide) ?_
        | refine T_if_lt (tgt := 144) (pc1 := 70) (pc := 67) k_M_firstBit_67 rfl rfl (fun hc => ?_) (fun hc => ?_)
        | refine T_aload_n (pc1 := 71) (pc := 70) k_M_firstBit_70 rfl rfl ?_
        | refine T_aload_nN (pc1 := 71) (pc := 70) k_M_firstBit_70 rfl rfl ?_
        | refine T_getR (pc1 := 74) (pc := 71) k_M_firstBit_71 rfl f_M_22 rfl (by first | exact ga G (by decide) rfl | assumption) (by first | exact gr G (by decide) rfl | assumption) ?_
        | refine T_iload_n (pc1 := 75) (pc := 74) k_M_firstBit_74 rfl rfl ?_
        | refine T_ialdN (pc1 := 76) (pc := 75) k_M_firstBit_75 rfl (ga G (by decide) rfl) (by omega) (by omega) hat ?_
        | refine T_ldc (v := (nI 1000000)) (pc1 := 78) (pc := 76) k_M_firstBit_76 rfl c_M_163 ?_
        | (with_reducible refine T_icmp_geN (tgt := 144) (pc1 := 81) (pc := 78) k_M_firstBit_78 (by decide) (by decide) (by omega) (by omega) (fun hc => ?_) (fun hc => ?_) <;> first | (exfalso; omega) | skip)
        | refine T_icmp_ge_t (tgt := 144) (pc := 78) k_M_firstBit_78 rfl (by decide) ?_
        | refine T_icmp_ge_f (tgt := 144) (pc1 := 81) (pc := 78) k_M_firstBit_78 rfl rfl (by decide) ?_
        | refine T_icmp_ge (tgt := 144) (pc1 := 81) (pc := 78) k_M_firstBit_78 rfl rfl (fun hc => ?_) (fun hc => ?_)
        | refine T_aload_n (pc1 := 82) (pc := 81) k_M_firstBit_81 rfl rfl ?_
        | refine T_aload_nN (pc1 := 82) (pc := 81) k_M_firstBit_81 rfl rfl ?_
        | refine T_iload (pc1 := 84) (pc := 82) k_M_firstBit_82 rfl rfl ?_
        | refine T_iload_n (pc1 := 85) (pc := 84) k_M_firstBit_84 rfl rfl ?_
        | (refine T_cV (As := [_, _]) (d1 := 2) (pc1 := 88) (pc := 85) k_M_firstBit_85 rfl (by decide) (Nat.le_of_ble_eq_true rfl) rfl o_M_otherEnd l_M_168 rfl (by first | exact ga G (by decide) rfl | assumption) rfl (c_M_otherEnd G hJN ok (by omega) ha (fun v w1 w2 w3 => ?_)) <;> try dsimp only [psh])
        | refine T_istore (pc1 := 90) (pc := 88) k_M_firstBit_88 rfl (Nat.le_of_ble_eq_true rfl) ?_
        | refine T_iload (pc1 := 92) (pc := 90) k_M_firstBit_90 rfl rfl ?_
        | (with_reducible refine T_if_ltN (tgt := 134) (pc1 := 95) (pc := 92) k_M_firstBit_92 (by decide) (by decide) (by omega) ?_ <;> first | (exfalso; omega) | skip)
        | refine T_if_lt_t (tgt := 134) (pc := 92) k_M_firstBit_92 rfl (by decide) ?_
        | refine T_if_lt_f (tgt := 134) (pc1 := 95) (pc := 92) k_M_firstBit_92 rfl rfl (by decide) ?_
        | refine T_if_lt (tgt := 134) (pc1 := 95) (pc := 92) k_M_firstBit_92 rfl rfl (fun hc => ?_) (fun hc => ?_)
        | refine T_aload_n (pc1 := 96) (pc := 95) k_M_firstBit_95 rfl rfl ?_
        | refine T_aload_nN (pc1 := 96) (pc := 95) k_M_firstBit_95 rfl rfl ?_
        | refine T_getR (pc1 := 99) (pc := 96) k_M_firstBit_96 rfl f_M_19 rfl (by first | exact ga G (by decide) rfl | assumption) (by first | exact gr G (by decide) rfl | assumption) ?_
        | refine T_iload (pc1 := 101) (pc := 99) k_M_firstBit_99 rfl rfl ?_
        | refine T_ialdN (pc1 := 102) (pc := 101) k_M_firstBit_101 rfl (ga G (by decide) rfl) (by omega) (by omega) hcm ?_
        | (with_reducible refine T_if_leN (tgt := 134) (pc1 := 105) (pc := 102) k_M_firstBit_102 (by decide) (by decide) (by omega) (fun hc => ?_) (fun hc => ?_) <;> first | (exfalso; omega) | skip)
        | refine T_if_le_t (tgt := 134) (pc := 102) k_M_firstBit_102 rfl (by decide) ?_
        | refine T_if_le_f (tgt := 134) (pc1 := 105) (pc := 102) k_M_firstBit_102 rfl rfl (by decide) ?_
        | refine T_if_le (tgt := 134) (pc1 := 105) (pc := 102) k_M_firstBit_102 rfl rfl (fun hc => ?_) (fun hc => ?_)
        | refine T_aload_n (pc1 := 106) (pc := 105) k_M_firstBit_105 rfl rfl ?_
        | refine T_aload_nN (pc1 := 106) (pc := 105) k_M_firstBit_105 rfl rfl ?_
        | refine T_getR (pc1 := 109) (pc := 106) k_M_firstBit_106 rfl f_M_22 rfl (by first | exact ga G (by decide) rfl | assumption) (by first | exact gr G (by decide) rfl | assumption) ?_
        | refine T_iload (pc1 := 111) (pc := 109) k_M_firstBit_109 rfl rfl ?_
        | refine T_ialdN (pc1 := 112) (pc := 111) k_M_firstBit_111 rfl (ga G (by decide) rfl) (by omega) (by omega) (by first | exact v2 | exact v1) ?_
        | refine T_aload_n (pc1 := 113) (pc := 112) k_M_firstBit_112 rfl rfl ?_
        | refine T_aload_nN (pc1 := 113) (pc := 112) k_M_firstBit_112 rfl rfl ?_
        | refine T_getR (pc1 := 116) (pc := 113) k_M_firstBit_113 rfl f_M_19 rfl (by first | exact ga G (by decide) rfl | assumption) (by first | exact gr G (by decide) rfl | assumption) ?_
        | refine T_iload (pc1 := 118) (pc := 116) k_M_firstBit_116 rfl rfl ?_
        | refine T_ialdN (pc1 := 119) (pc := 118) k_M_firstBit_118 rfl (ga G (by decide) rfl) (by omega) (by omega) hcm ?_
        | with_reducible refine T_iaddN (pc1 := 120) (pc := 119) k_M_firstBit_119 (by decide) ?_
        | refine T_iadd (pc1 := 120) (pc := 119) k_M_firstBit_119 rfl ?_
        | refine T_aload_n (pc1 := 121) (pc := 120) k_M_firstBit_120 rfl rfl ?_
        | refine T_aload_nN (pc1 := 121) (pc := 120) k_M_firstBit_120 rfl rfl ?_
        | refine T_getR (pc1 := 124) (pc := 121) k_M_firstBit_121 rfl f_M_22 rfl (by first | exact ga G (by decide) rfl | assumption) (by first | exact gr G (by decide) rfl | assumption) ?_
        | refine T_iload_n (pc1 := 125) (pc := 124) k_M_firstBit_124 rfl rfl ?_
        | refine T_ialdN (pc1 := 126) (pc := 125) k_M_firstBit_125 rfl (ga G (by decide) rfl) (by omega) (by omega) hat ?_
        | (with_reducible refine T_icmp_neN (tgt := 134) (pc1 := 129) (pc := 126) k_M_firstBit_126 (by decide) (by decide) (by omega) (by omega) (fun hc => ?_) (fun hc => ?_) <;> first | (exfalso; omega) | skip)
        | refine T_icmp_ne_t (tgt := 134) (pc := 126) k_M_firstBit_126 rfl (by decide) ?_
        | refine T_icmp_ne_f (tgt := 134) (pc1 := 129) (pc := 126) k_M_firstBit_126 rfl rfl (by decide) ?_
        | refine T_icmp_ne (tgt := 134) (pc1 := 129) (pc := 126) k_M_firstBit_126 rfl rfl (fun hc => ?_) (fun hc => ?_)
        | refine T_iload (pc1 := 131) (pc := 129) k_M_firstBit_129 rfl rfl ?_
        | refine T_goto (tgt := 136) (pc := 131) k_M_firstBit_131 rfl ?_
        | refine T_iload (pc1 := 136) (pc := 134) k_M_firstBit_134 rfl rfl ?_
        | refine T_istore (pc1 := 138) (pc := 136) k_M_firstBit_136 rfl (Nat.le_of_ble_eq_true rfl) ?_
        | (refine T_iinc (v := (-1)) (pc1 := 141) (pc := 138) k_M_firstBit_138 rfl rfl (by decide) ?_; rw [hdec])
        | refine T_goto (tgt := 65) (pc := 141) k_M_firstBit_141 rfl ?_
        | refine T_iload (pc1 := 146) (pc := 144) k_M_firstBit_144 rfl rfl ?_
        | refine T_retI (pc := 146) k_M_firstBit_146 rfl (by first | rfl | decide | assumption) ?_)
      rw [tst_nI (by omega) (by omega)]
      repeat' (first
        | refine T_iconst (v := (nI 0)) (pc1 := 1) (pc := 0) k_M_firstBit_0 rfl (by decide) ?_
        | refine T_istore (pc1 := 3) (pc := 1) k_M_firstBit_1 rfl (Nat.le_of_ble_eq_true rfl) ?_
        | refine T_aload_n (pc1 := 6) (pc := 5) k_M_firstBit_5 rfl rfl ?_
        | refine T_aload_nN (pc1 := 6) (pc := 5) k_M_firstBit_5 rfl rfl ?_
        | refine T_getR (pc1 := 9) (pc := 6) k_M_firstBit_6 rfl f_M_9 rfl (by first | exact ga G (by decide) rfl | assumption) (by first | exact gr G (by decide) rfl | assumption) ?_
        | refine T_iconst (v := (nI 5)) (pc1 := 10) (pc := 9) k_M_firstBit_9 rfl (by decide) ?_
        | refine T_ialdN (pc1 := 11) (pc := 10) k_M_firstBit_10 rfl (by first | exact ga G (by decide) rfl | assumption) (by omega) (by omega) (by first | assumption | (simp (disch := omega) only [pI_eq, pI_row, pI_col, va_up_self, va_up_ne, ne_eq, not_false_eq_true, hJN, h5] <;> rfl) | rfl) ?_
        | refine T_iald (pc1 := 11) (pc := 10) k_M_firstBit_10 rfl (by first | exact ga G (by decide) rfl | assumption) (by assumption) ?_
        | (with_reducible refine T_icmp_geN (tgt := 47) (pc1 := 14) (pc := 11) k_M_firstBit_11 (by decide) (by decide) (by omega) (by omega) (fun hc => ?_) (fun hc => ?_) <;> first | (exfalso; omega) | skip)
        | refine T_icmp_ge_t (tgt := 47) (pc := 11) k_M_firstBit_11 rfl (by decide) ?_
        | refine T_icmp_ge_f (tgt := 47) (pc1 := 14) (pc := 11) k_M_firstBit_11 rfl rfl (by decide) ?_
        | refine T_icmp_ge (tgt := 47) (pc1 := 14) (pc := 11) k_M_firstBit_11 rfl rfl (fun hc => ?_) (fun hc => ?_)
        | refine T_aload_n (pc1 := 15) (pc := 14) k_M_firstBit_14 rfl rfl ?_
        | refine T_aload_nN (pc1 := 15) (pc := 14) k_M_firstBit_14 rfl rfl ?_
        | refine T_getR (pc1 := 18) (pc := 15) k_M_firstBit_15 rfl f_M_19 rfl (by first | exact ga G (by decide) rfl | assumption) (by first | exact gr G (by decide) rfl | assumption) ?_
        | refine T_iload (pc1 := 20) (pc := 18) k_M_firstBit_18 rfl rfl ?_
        | refine T_iload_n (pc1 := 21) (pc := 20) k_M_firstBit_20 rfl rfl ?_
        | refine T_iload (pc1 := 23) (pc := 21) k_M_firstBit_21 rfl rfl ?_
        | refine T_ishr (pc1 := 24) (pc := 23) k_M_firstBit_23 rfl ?_
        | refine T_iconst (v := (nI 1)) (pc1 := 25) (pc := 24) k_M_firstBit_24 rfl (by decide) ?_
        | refine T_iand (pc1 := 26) (pc := 25) k_M_firstBit_25 rfl ?_
        | refine T_iconst (v := (nI 1)) (pc1 := 27) (pc := 26) k_M_firstBit_26 rfl (by decide) ?_
        | (with_reducible refine T_icmp_neN (tgt := 34) (pc1 := 30) (pc := 27) k_M_firstBit_27 (by decide) (by decide) (by omega) (by omega) (fun hc => ?_) (fun hc => ?_) <;> first | (exfalso; omega) | skip)
        | refine T_icmp_ne_t (tgt := 34) (pc := 27) k_M_firstBit_27 rfl (by decide) ?_
        | refine T_icmp_ne_f (tgt := 34) (pc1 := 30) (pc := 27) k_M_firstBit_27 rfl rfl (by decide) ?_
        | refine T_icmp_ne (tgt := 34) (pc1 := 30) (pc := 27) k_M_firstBit_27 rfl rfl (fun hc => ?_) (fun hc => ?_)
        | refine T_iconst (v := (nI 0)) (pc1 := 31) (pc := 30) k_M_firstBit_30 rfl (by decide) ?_
        | refine T_goto (tgt := 40) (pc := 31) k_M_firstBit_31 rfl ?_
        | refine T_aload_n (pc1 := 35) (pc := 34) k_M_firstBit_34 rfl rfl ?_
        | refine T_aload_nN (pc1 := 35) (pc := 34) k_M_firstBit_34 rfl rfl ?_
        | refine T_iload (pc1 := 37) (pc := 35) k_M_firstBit_35 rfl rfl ?_
        | (refine T_cV (As := [_]) (d1 := 3) (pc1 := 40) (pc := 37) k_M_firstBit_37 rfl (by decide) (Nat.le_of_ble_eq_true rfl) rfl o_M_thinks l_M_149 rfl (by first | exact ga G (by decide) rfl | assumption) rfl (c_M_thinksN G hJN ok hbn (fun J1 hJ1 => ?_)) <;> try dsimp only [psh])
        | refine T_iastN (pc1 := 41) (pc := 40) k_M_firstBit_40 rfl (by first | exact ga G (by decide) rfl | assumption) (by omega) (by omega) ?_
        | refine T_iincN (b := 1) (pc1 := 44) (pc := 41) k_M_firstBit_41 rfl rfl (by decide) ?_
        | refine T_iinc (v := (nI 1)) (pc1 := 44) (pc := 41) k_M_firstBit_41 rfl rfl (by decide) ?_
        | refine T_goto (tgt := 3) (pc := 44) k_M_firstBit_44 rfl ?_
        | refine T_aload_n (pc1 := 48) (pc := 47) k_M_firstBit_47 rfl rfl ?_
        | refine T_aload_nN (pc1 := 48) (pc := 47) k_M_firstBit_47 rfl rfl ?_
        | refine T_iload_n (pc1 := 49) (pc := 48) k_M_firstBit_48 rfl rfl ?_
        | (refine T_cV (As := [_]) (d1 := 2) (pc1 := 52) (pc := 49) k_M_firstBit_49 rfl (by decide) (Nat.le_of_ble_eq_true rfl) rfl o_M_findFar l_M_164 rfl (by first | exact ga G (by decide) rfl | assumption) rfl (c_M_findFar (c := cst N tn F) G hJN ok ht hcs (fun b hb => cst_le ok hb) (fun J1 hJ1 hv => ?_)) <;> try dsimp only [psh])
        | refine T_iconst (v := (-1)) (pc1 := 53) (pc := 52) k_M_firstBit_52 rfl (by decide) ?_
        | refine T_istore (pc1 := 55) (pc := 53) k_M_firstBit_53 rfl (Nat.le_of_ble_eq_true rfl) ?_
        | refine T_aload_n (pc1 := 56) (pc := 55) k_M_firstBit_55 rfl rfl ?_
        | refine T_aload_nN (pc1 := 56) (pc := 55) k_M_firstBit_55 rfl rfl ?_
        | refine T_getR (pc1 := 59) (pc := 56) k_M_firstBit_56 rfl f_M_9 rfl (by first | exact ga G (by decide) rfl | assumption) (by first | exact gr G (by decide) rfl | assumption) ?_
        | refine T_iconst (v := (nI 5)) (pc1 := 60) (pc := 59) k_M_firstBit_59 rfl (by decide) ?_
        | refine T_ialdN (pc1 := 61) (pc := 60) k_M_firstBit_60 rfl (by first | exact ga G (by decide) rfl | assumption) (by omega) (by omega) (by first | assumption | (simp (disch := omega) only [pI_eq, pI_row, pI_col, va_up_self, va_up_ne, ne_eq, not_false_eq_true, hJN, h5] <;> rfl) | rfl) ?_
        | refine T_iald (pc1 := 61) (pc := 60) k_M_firstBit_60 rfl (by first | exact ga G (by decide) rfl | assumption) (by assumption) ?_
        | refine T_iconst (v := (nI 1)) (pc1 := 62) (pc := 61) k_M_firstBit_61 rfl (by decide) ?_
        | refine T_isub (pc1 := 63) (pc := 62) k_M_firstBit_62 rfl ?_
        | refine T_istore (pc1 := 65) (pc := 63) k_M_firstBit_63 rfl (Nat.le_of_ble_eq_true rfl) ?_
        | refine T_iload (pc1 := 67) (pc := 65) k_M_firstBit_65 rfl rfl ?_
        | (with_reducible refine T_if_ltN (tgt := 144) (pc1 := 70) (pc := 67) k_M_firstBit_67 (by decide) (by decide) (by omega) ?_ <;> first | (exfalso; omega) | skip)
        | refine T_if_lt_t (tgt := 144) (pc := 67) k_M_firstBit_67 rfl (by decide) ?_
        | refine T_if_lt_f (tgt := 144) (pc1 := 70) (pc := 67) k_M_firstBit_67 rfl rfl (by decide) ?_
        | refine T_if_lt (tgt := 144) (pc1 := 70) (pc := 67) k_M_firstBit_67 rfl rfl (fun hc => ?_) (fun hc => ?_)
        | refine T_aload_n (pc1 := 71) (pc := 70) k_M_firstBit_70 rfl rfl ?_
        | refine T_aload_nN (pc1 := 71) (pc := 70) k_M_firstBit_70 rfl rfl ?_
        | refine T_getR (pc1 := 74) (pc := 71) k_M_firstBit_71 rfl f_M_22 rfl (by first | exact ga G (by decide) rfl | assumption) (by first | exact gr G (by decide) rfl | assumption) ?_
        | refine T_iload_n (pc1 := 75) (pc := 74) k_M_firstBit_74 rfl rfl ?_
        | refine T_ialdN (pc1 := 76) (pc := 75) k_M_firstBit_75 rfl (ga G (by decide) rfl) (by omega) (by omega) hat ?_
        | refine T_ldc (v := (nI 1000000)) (pc1 := 78) (pc := 76) k_M_firstBit_76 rfl c_M_163 ?_
        | (with_reducible refine T_icmp_geN (tgt := 144) (pc1 := 81) (pc := 78) k_M_firstBit_78 (by decide) (by decide) (by omega) (by omega) (fun hc => ?_) (fun hc => ?_) <;> first | (exfalso; omega) | skip)
        | refine T_icmp_ge_t (tgt := 144) (pc := 78) k_M_firstBit_78 rfl (by decide) ?_
        | refine T_icmp_ge_f (tgt := 144) (pc1 := 81) (pc := 78) k_M_firstBit_78 rfl rfl (by decide) ?_
        | refine T_icmp_ge (tgt := 144) (pc1 := 81) (pc := 78) k_M_firstBit_78 rfl rfl (fun hc => ?_) (fun hc => ?_)
        | refine T_aload_n (pc1 := 82) (pc := 81) k_M_firstBit_81 rfl rfl ?_
        | refine T_aload_nN (pc1 := 82) (pc := 81) k_M_firstBit_81 rfl rfl ?_
        | refine T_iload (pc1 := 84) (pc := 82) k_M_firstBit_82 rfl rfl ?_
        | refine T_iload_n (pc1 := 85) (pc := 84) k_M_firstBit_84 rfl rfl ?_
        | (refine T_cV (As := [_, _]) (d1 := 2) (pc1 := 88) (pc := 85) k_M_firstBit_85 rfl (by decide) (Nat.le_of_ble_eq_true rfl) rfl o_M_otherEnd l_M_168 rfl (by first | exact ga G (by decide) rfl | assumption) rfl (c_M_otherEnd G hJN ok (by omega) ha (fun v w1 w2 w3 => ?_)) <;> try dsimp only [psh])
        | refine T_istore (pc1 := 90) (pc := 88) k_M_firstBit_88 rfl (Nat.le_of_ble_eq_true rfl) ?_
        | refine T_iload (pc1 := 92) (pc := 90) k_M_firstBit_90 rfl rfl ?_
        | (with_reducible refine T_if_ltN (tgt := 134) (pc1 := 95) (pc := 92) k_M_firstBit_92 (by decide) (by decide) (by omega) ?_ <;> first | (exfalso; omega) | skip)
        | refine T_if_lt_t (tgt := 134) (pc := 92) k_M_firstBit_92 rfl (by decide) ?_
        | refine T_if_lt_f (tgt := 134) (pc1 := 95) (pc := 92) k_M_firstBit_92 rfl rfl (by decide) ?_
        | refine T_if_lt (tgt := 134) (pc1 := 95) (pc := 92) k_M_firstBit_92 rfl rfl (fun hc => ?_) (fun hc => ?_)
        | refine T_aload_n (pc1 := 96) (pc := 95) k_M_firstBit_95 rfl rfl ?_
        | refine T_aload_nN (pc1 := 96) (pc := 95) k_M_firstBit_95 rfl rfl ?_
        | refine T_getR (pc1 := 99) (pc := 96) k_M_firstBit_96 rfl f_M_19 rfl (by first | exact ga G (by decide) rfl | assumption) (by first | exact gr G (by decide) rfl | assumption) ?_
        | refine T_iload (pc1 := 101) (pc := 99) k_M_firstBit_99 rfl rfl ?_
        | refine T_ialdN (pc1 := 102) (pc := 101) k_M_firstBit_101 rfl (ga G (by decide) rfl) (by omega) (by omega) hcm ?_
        | (with_reducible refine T_if_leN (tgt := 134) (pc1 := 105) (pc := 102) k_M_firstBit_102 (by decide) (by decide) (by omega) (fun hc => ?_) (fun hc => ?_) <;> first | (exfalso; omega) | skip)
        | refine T_if_le_t (tgt := 134) (pc := 102) k_M_firstBit_102 rfl (by decide) ?_
        | refine T_if_le_f (tgt := 134) (pc1 := 105) (pc := 102) k_M_firstBit_102 rfl rfl (by decide) ?_
        | refine T_if_le (tgt := 134) (pc1 := 105) (pc := 102) k_M_firstBit_102 rfl rfl (fun hc => ?_) (fun hc => ?_)
        | refine T_aload_n (pc1 := 106) (pc := 105) k_M_firstBit_105 rfl rfl ?_
        | refine T_aload_nN (pc1 := 106) (pc := 105) k_M_firstBit_105 rfl rfl ?_
        | refine T_getR (pc1 := 109) (pc := 106) k_M_firstBit_106 rfl f_M_22 rfl (by first | exact ga G (by decide) rfl | assumption) (by first | exact gr G (by decide) rfl | assumption) ?_
        | refine T_iload (pc1 := 111) (pc := 109) k_M_firstBit_109 rfl rfl ?_
        | refine T_ialdN (pc1 := 112) (pc := 111) k_M_firstBit_111 rfl (ga G (by decide) rfl) (by omega) (by omega) (by first | exact v2 | exact v1) ?_
        | refine T_aload_n (pc1 := 113) (pc := 112) k_M_firstBit_112 rfl rfl ?_
        | refine T_aload_nN (pc1 := 113) (pc := 112) k_M_firstBit_112 rfl rfl ?_
        | refine T_getR (pc1 := 116) (pc := 113) k_M_firstBit_113 rfl f_M_19 rfl (by first | exact ga G (by decide) rfl | assumption) (by first | exact gr G (by decide) rfl | assumption) ?_
        | refine T_iload (pc1 := 118) (pc := 116) k_M_firstBit_116 rfl rfl ?_
        | refine T_ialdN (pc1 := 119) (pc := 118) k_M_firstBit_118 rfl (ga G (by decide) rfl) (by omega) (by omega) hcm ?_
        | with_reducible refine T_iaddN (pc1 := 120) (pc := 119) k_M_firstBit_119 (by decide) ?_
        | refine T_iadd (pc1 := 120) (pc := 119) k_M_firstBit_119 rfl ?_
        | refine T_aload_n (pc1 := 121) (pc := 120) k_M_firstBit_120 rfl rfl ?_
        | refine T_aload_nN (pc1 := 121) (pc := 120) k_M_firstBit_120 rfl rfl ?_
        | refine T_getR (pc1 := 124) (pc := 121) k_M_firstBit_121 rfl f_M_22 rfl (by first | exact ga G (by decide) rfl | assumption) (by first | exact gr G (by decide) rfl | assumption) ?_
        | refine T_iload_n (pc1 := 125) (pc := 124) k_M_firstBit_124 rfl rfl ?_
        | refine T_ialdN (pc1 := 126) (pc := 125) k_M_firstBit_125 rfl (ga G (by decide) rfl) (by omega) (by omega) hat ?_
        | (with_reducible refine T_icmp_neN (tgt := 134) (pc1 := 129) (pc := 126) k_M_firstBit_126 (by decide) (by decide) (by omega) (by omega) (fun hc => ?_) (fun hc => ?_) <;> first | (exfalso; omega) | skip)
        | refine T_icmp_ne_t (tgt := 134) (pc := 126) k_M_firstBit_126 rfl (by decide) ?_
        | refine T_icmp_ne_f (tgt := 134) (pc1 := 129) (pc := 126) k_M_firstBit_126 rfl rfl (by decide) ?_
        | refine T_icmp_ne (tgt := 134) (pc1 := 129) (pc := 126) k_M_firstBit_126 rfl rfl (fun hc => ?_) (fun hc => ?_)
        | refine T_iload (pc1 := 131) (pc := 129) k_M_firstBit_129 rfl rfl ?_
        | refine T_goto (tgt := 136) (pc := 131) k_M_firstBit_131 rfl ?_
        | refine T_iload (pc1 := 136) (pc := 134) k_M_firstBit_134 rfl rfl ?_
        | refine T_istore (pc1 := 138) (pc := 136) k_M_firstBit_136 rfl (Nat.le_of_ble_eq_true rfl) ?_
        | (refine T_iinc (v := (-1)) (pc1 := 141) (pc := 138) k_M_firstBit_138 rfl rfl (by decide) ?_; rw [hdec])
        | refine T_goto (tgt := 65) (pc := 141) k_M_firstBit_141 rfl ?_
        | refine T_iload (pc1 := 146) (pc := 144) k_M_firstBit_144 rfl rfl ?_
        | refine T_retI (pc := 146) k_M_firstBit_146 rfl (by first | rfl | decide | assumption) ?_)
      · refine ih (b + 1) _ (by omega) (eqx_pI (eqx_tr hJ (eqx_mono hJ1 (by decide))) _ (by decide)) (fun j hj => ?_)
        rw [pI_self]
        by_cases hjb : j = b
        · subst hjb
          rw [va_up_self, cst, if_neg (by assumption)]
        · rw [va_up_ne _ _ hjb, hJ1 105 (by decide)]
          exact hcs j (by omega)
      · refine ih (b + 1) _ (by omega) (eqx_pI hJ _ (by decide)) (fun j hj => ?_)
        rw [pI_self]
        by_cases hjb : j = b
        · subst hjb
          rw [va_up_self, cst, if_pos (by omega)]
        · rw [va_up_ne _ _ hjb]
          exact hcs j (by omega)
  repeat' (first
    | refine T_iconst (v := (nI 0)) (pc1 := 1) (pc := 0) k_M_firstBit_0 rfl (by decide) ?_
    | refine T_istore (pc1 := 3) (pc := 1) k_M_firstBit_1 rfl (Nat.le_of_ble_eq_true rfl) ?_
    | refine T_aload_n (pc1 := 6) (pc := 5) k_M_firstBit_5 rfl rfl ?_
    | refine T_aload_nN (pc1 := 6) (pc := 5) k_M_firstBit_5 rfl rfl ?_
    | refine T_getR (pc1 := 9) (pc := 6) k_M_firstBit_6 rfl f_M_9 rfl (by first | exact ga G (by decide) rfl | assumption) (by first | exact gr G (by decide) rfl | assumption) ?_
    | refine T_iconst (v := (nI 5)) (pc1 := 10) (pc := 9) k_M_firstBit_9 rfl (by decide) ?_
    | refine T_ialdN (pc1 := 11) (pc := 10) k_M_firstBit_10 rfl (by first | exact ga G (by decide) rfl | assumption) (by omega) (by omega) (by first | assumption | (simp (disch := omega) only [pI_eq, pI_row, pI_col, va_up_self, va_up_ne, ne_eq, not_false_eq_true, hJN, h5] <;> rfl) | rfl) ?_
    | refine T_iald (pc1 := 11) (pc := 10) k_M_firstBit_10 rfl (by first | exact ga G (by decide) rfl | assumption) (by assumption) ?_
    | (with_reducible refine T_icmp_geN (tgt := 47) (pc1 := 14) (pc := 11) k_M_firstBit_11 (by decide) (by decide) (by omega) (by omega) (fun hc => ?_) (fun hc => ?_) <;> first | (exfalso; omega) | skip)
    | refine T_icmp_ge_t (tgt := 47) (pc := 11) k_M_firstBit_11 rfl (by decide) ?_
    | refine T_icmp_ge_f (tgt := 47) (pc1 := 14) (pc := 11) k_M_firstBit_11 rfl rfl (by decide) ?_
    | refine T_icmp_ge (tgt := 47) (pc1 := 14) (pc := 11) k_M_firstBit_11 rfl rfl (fun hc => ?_) (fun hc => ?_)
    | refine T_aload_n (pc1 := 15) (pc := 14) k_M_firstBit_14 rfl rfl ?_
    | refine T_aload_nN (pc1 := 15) (pc := 14) k_M_firstBit_14 rfl rfl ?_
    | refine T_getR (pc1 := 18) (pc := 15) k_M_firstBit_15 rfl f_M_19 rfl (by first | exact ga G (by decide) rfl | assumption) (by first | exact gr G (by decide) rfl | assumption) ?_
    | refine T_iload (pc1 := 20) (pc := 18) k_M_firstBit_18 rfl rfl ?_
    | refine T_iload_n (pc1 := 21) (pc := 20) k_M_firstBit_20 rfl rfl ?_
    | refine T_iload (pc1 := 23) (pc := 21) k_M_firstBit_21 rfl rfl ?_
    | refine T_ishr (pc1 := 24) (pc := 23) k_M_firstBit_23 rfl ?_
    | refine T_iconst (v := (nI 1)) (pc1 := 25) (pc := 24) k_M_firstBit_24 rfl (by decide) ?_
    | refine T_iand (pc1 := 26) (pc := 25) k_M_firstBit_25 rfl ?_
    | refine T_iconst (v := (nI 1)) (pc1 := 27) (pc := 26) k_M_firstBit_26 rfl (by decide) ?_
    | (with_reducible refine T_icmp_neN (tgt := 34) (pc1 := 30) (pc := 27) k_M_firstBit_27 (by decide) (by decide) (by omega) (by omega) (fun hc => ?_) (fun hc => ?_) <;> first | (exfalso; omega) | skip)
    | refine T_icmp_ne_t (tgt := 34) (pc := 27) k_M_firstBit_27 rfl (by decide) ?_
    | refine T_icmp_ne_f (tgt := 34) (pc1 := 30) (pc := 27) k_M_firstBit_27 rfl rfl (by decide) ?_
    | refine T_icmp_ne (tgt := 34) (pc1 := 30) (pc := 27) k_M_firstBit_27 rfl rfl (fun hc => ?_) (fun hc => ?_)
    | refine T_iconst (v := (nI 0)) (pc1 := 31) (pc := 30) k_M_firstBit_30 rfl (by decide) ?_
    | refine T_goto (tgt := 40) (pc := 31) k_M_firstBit_31 rfl ?_
    | refine T_aload_n (pc1 := 35) (pc := 34) k_M_firstBit_34 rfl rfl ?_
    | refine T_aload_nN (pc1 := 35) (pc := 34) k_M_firstBit_34 rfl rfl ?_
    | refine T_iload (pc1 := 37) (pc := 35) k_M_firstBit_35 rfl rfl ?_
    | (refine T_cV (As := [_]) (d1 := 3) (pc1 := 40) (pc := 37) k_M_firstBit_37 rfl (by decide) (Nat.le_of_ble_eq_true rfl) rfl o_M_thinks l_M_149 rfl (by first | exact ga G (by decide) rfl | assumption) rfl (c_M_thinksN G hJN ok hbn (fun J1 hJ1 => ?_)) <;> try dsimp only [psh])
    | refine T_iastN (pc1 := 41) (pc := 40) k_M_firstBit_40 rfl (by first | exact ga G (by decide) rfl | assumption) (by omega) (by omega) ?_
    | refine T_iincN (b := 1) (pc1 := 44) (pc := 41) k_M_firstBit_41 rfl rfl (by decide) ?_
    | refine T_iinc (v := (nI 1)) (pc1 := 44) (pc := 41) k_M_firstBit_41 rfl rfl (by decide) ?_
    | refine T_goto (tgt := 3) (pc := 44) k_M_firstBit_44 rfl ?_
    | refine T_aload_n (pc1 := 48) (pc := 47) k_M_firstBit_47 rfl rfl ?_
    | refine T_aload_nN (pc1 := 48) (pc := 47) k_M_firstBit_47 rfl rfl ?_
    | refine T_iload_n (pc1 := 49) (pc := 48) k_M_firstBit_48 rfl rfl ?_
    | (refine T_cV (As := [_]) (d1 := 2) (pc1 := 52) (pc := 49) k_M_firstBit_49 rfl (by decide) (Nat.le_of_ble_eq_true rfl) rfl o_M_findFar l_M_164 rfl (by first | exact ga G (by decide) rfl | assumption) rfl (c_M_findFar (c := cst N tn F) G hJN ok ht hcs (fun b hb => cst_le ok hb) (fun J1 hJ1 hv => ?_)) <;> try dsimp only [psh])
    | refine T_iconst (v := (-1)) (pc1 := 53) (pc := 52) k_M_firstBit_52 rfl (by decide) ?_
    | refine T_istore (pc1 := 55) (pc := 53) k_M_firstBit_53 rfl (Nat.le_of_ble_eq_true rfl) ?_
    | refine T_aload_n (pc1 := 56) (pc := 55) k_M_firstBit_55 rfl rfl ?_
    | refine T_aload_nN (pc1 := 56) (pc := 55) k_M_firstBit_55 rfl rfl ?_
    | refine T_getR (pc1 := 59) (pc := 56) k_M_firstBit_56 rfl f_M_9 rfl (by first | exact ga G (by decide) rfl | assumption) (by first | exact gr G (by decide) rfl | assumption) ?_
    | refine T_iconst (v := (nI 5)) (pc1 := 60) (pc := 59) k_M_firstBit_59 rfl (by decide) ?_
    | refine T_ialdN (pc1 := 61) (pc := 60) k_M_firstBit_60 rfl (by first | exact ga G (by decide) rfl | assumption) (by omega) (by omega) (by first | assumption | (simp (disch := omega) only [pI_eq, pI_row, pI_col, va_up_self, va_up_ne, ne_eq, not_false_eq_true, hJN, h5] <;> rfl) | rfl) ?_
    | refine T_iald (pc1 := 61) (pc := 60) k_M_firstBit_60 rfl (by first | exact ga G (by decide) rfl | assumption) (by assumption) ?_
    | refine T_iconst (v := (nI 1)) (pc1 := 62) (pc := 61) k_M_firstBit_61 rfl (by decide) ?_
    | refine T_isub (pc1 := 63) (pc := 62) k_M_firstBit_62 rfl ?_
    | refine T_istore (pc1 := 65) (pc := 63) k_M_firstBit_63 rfl (Nat.le_of_ble_eq_true rfl) ?_
    | refine T_iload (pc1 := 67) (pc := 65) k_M_firstBit_65 rfl rfl ?_
    | (with_reducible refine T_if_ltN (tgt := 144) (pc1 := 70) (pc := 67) k_M_firstBit_67 (by decide) (by decide) (by omega) ?_ <;> first | (exfalso; omega) | skip)
    | refine T_if_lt_t (tgt := 144) (pc := 67) k_M_firstBit_67 rfl (by decide) ?_
    | refine T_if_lt_f (tgt := 144) (pc1 := 70) (pc := 67) k_M_firstBit_67 rfl rfl (by decide) ?_
    | refine T_if_lt (tgt := 144) (pc1 := 70) (pc := 67) k_M_firstBit_67 rfl rfl (fun hc => ?_) (fun hc => ?_)
    | refine T_aload_n (pc1 := 71) (pc := 70) k_M_firstBit_70 rfl rfl ?_
    | refine T_aload_nN (pc1 := 71) (pc := 70) k_M_firstBit_70 rfl rfl ?_
    | refine T_getR (pc1 := 74) (pc := 71) k_M_firstBit_71 rfl f_M_22 rfl (by first | exact ga G (by decide) rfl | assumption) (by first | exact gr G (by decide) rfl | assumption) ?_
    | refine T_iload_n (pc1 := 75) (pc := 74) k_M_firstBit_74 rfl rfl ?_
    | refine T_ialdN (pc1 := 76) (pc := 75) k_M_firstBit_75 rfl (ga G (by decide) rfl) (by omega) (by omega) hat ?_
    | refine T_ldc (v := (nI 1000000)) (pc1 := 78) (pc := 76) k_M_firstBit_76 rfl c_M_163 ?_
    | (with_reducible refine T_icmp_geN (tgt := 144) (pc1 := 81) (pc := 78) k_M_firstBit_78 (by decide) (by decide) (by omega) (by omega) (fun hc => ?_) (fun hc => ?_) <;> first | (exfalso; omega) | skip)
    | refine T_icmp_ge_t (tgt := 144) (pc := 78) k_M_firstBit_78 rfl (by decide) ?_
    | refine T_icmp_ge_f (tgt := 144) (pc1 := 81) (pc := 78) k_M_firstBit_78 rfl rfl (by decide) ?_
    | refine T_icmp_ge (tgt := 144) (pc1 := 81) (pc := 78) k_M_firstBit_78 rfl rfl (fun hc => ?_) (fun hc => ?_)
    | refine T_aload_n (pc1 := 82) (pc := 81) k_M_firstBit_81 rfl rfl ?_
    | refine T_aload_nN (pc1 := 82) (pc := 81) k_M_firstBit_81 rfl rfl ?_
    | refine T_iload (pc1 := 84) (pc := 82) k_M_firstBit_82 rfl rfl ?_
    | refine T_iload_n (pc1 := 85) (pc := 84) k_M_firstBit_84 rfl rfl ?_
    | (refine T_cV (As := [_, _]) (d1 := 2) (pc1 := 88) (pc := 85) k_M_firstBit_85 rfl (by decide) (Nat.le_of_ble_eq_true rfl) rfl o_M_otherEnd l_M_168 rfl (by first | exact ga G (by decide) rfl | assumption) rfl (c_M_otherEnd G hJN ok (by omega) ha (fun v w1 w2 w3 => ?_)) <;> try dsimp only [psh])
    | refine T_istore (pc1 := 90) (pc := 88) k_M_firstBit_88 rfl (Nat.le_of_ble_eq_true rfl) ?_
    | refine T_iload (pc1 := 92) (pc := 90) k_M_firstBit_90 rfl rfl ?_
    | (with_reducible refine T_if_ltN (tgt := 134) (pc1 := 95) (pc := 92) k_M_firstBit_92 (by decide) (by decide) (by omega) ?_ <;> first | (exfalso; omega) | skip)
    | refine T_if_lt_t (tgt := 134) (pc := 92) k_M_firstBit_92 rfl (by decide) ?_
    | refine T_if_lt_f (tgt := 134) (pc1 := 95) (pc := 92) k_M_firstBit_92 rfl rfl (by decide) ?_
    | refine T_if_lt (tgt := 134) (pc1 := 95) (pc := 92) k_M_firstBit_92 rfl rfl (fun hc => ?_) (fun hc => ?_)
    | refine T_aload_n (pc1 := 96) (pc := 95) k_M_firstBit_95 rfl rfl ?_
    | refine T_aload_nN (pc1 := 96) (pc := 95) k_M_firstBit_95 rfl rfl ?_
    | refine T_getR (pc1 := 99) (pc := 96) k_M_firstBit_96 rfl f_M_19 rfl (by first | exact ga G (by decide) rfl | assumption) (by first | exact gr G (by decide) rfl | assumption) ?_
    | refine T_iload (pc1 := 101) (pc := 99) k_M_firstBit_99 rfl rfl ?_
    | refine T_ialdN (pc1 := 102) (pc := 101) k_M_firstBit_101 rfl (ga G (by decide) rfl) (by omega) (by omega) hcm ?_
    | (with_reducible refine T_if_leN (tgt := 134) (pc1 := 105) (pc := 102) k_M_firstBit_102 (by decide) (by decide) (by omega) (fun hc => ?_) (fun hc => ?_) <;> first | (exfalso; omega) | skip)
    | refine T_if_le_t (tgt := 134) (pc := 102) k_M_firstBit_102 rfl (by decide) ?_
    | refine T_if_le_f (tgt := 134) (pc1 := 105) (pc := 102) k_M_firstBit_102 rfl rfl (by decide) ?_
    | refine T_if_le (tgt := 134) (pc1 := 105) (pc := 102) k_M_firstBit_102 rfl rfl (fun hc => ?_) (fun hc => ?_)
    | refine T_aload_n (pc1 := 106) (pc := 105) k_M_firstBit_105 rfl rfl ?_
    | refine T_aload_nN (pc1 := 106) (pc := 105) k_M_firstBit_105 rfl rfl ?_
    | refine T_getR (pc1 := 109) (pc := 106) k_M_firstBit_106 rfl f_M_22 rfl (by first | exact ga G (by decide) rfl | assumption) (by first | exact gr G (by decide) rfl | assumption) ?_
    | refine T_iload (pc1 := 111) (pc := 109) k_M_firstBit_109 rfl rfl ?_
    | refine T_ialdN (pc1 := 112) (pc := 111) k_M_firstBit_111 rfl (ga G (by decide) rfl) (by omega) (by omega) (by first | exact v2 | exact v1) ?_
    | refine T_aload_n (pc1 := 113) (pc := 112) k_M_firstBit_112 rfl rfl ?_
    | refine T_aload_nN (pc1 := 113) (pc := 112) k_M_firstBit_112 rfl rfl ?_
    | refine T_getR (pc1 := 116) (pc := 113) k_M_firstBit_113 rfl f_M_19 rfl (by first | exact ga G (by decide) rfl | assumption) (by first | exact gr G (by decide) rfl | assumption) ?_
    | refine T_iload (pc1 := 118) (pc := 116) k_M_firstBit_116 rfl rfl ?_
    | refine T_ialdN (pc1 := 119) (pc := 118) k_M_firstBit_118 rfl (ga G (by decide) rfl) (by omega) (by omega) hcm ?_
    | with_reducible refine T_iaddN (pc1 := 120) (pc := 119) k_M_firstBit_119 (by decide) ?_
    | refine T_iadd (pc1 := 120) (pc := 119) k_M_firstBit_119 rfl ?_
    | refine T_aload_n (pc1 := 121) (pc := 120) k_M_firstBit_120 rfl rfl ?_
    | refine T_aload_nN (pc1 := 121) (pc := 120) k_M_firstBit_120 rfl rfl ?_
    | refine T_getR (pc1 := 124) (pc := 121) k_M_firstBit_121 rfl f_M_22 rfl (by first | exact ga G (by decide) rfl | assumption) (by first | exact gr G (by decide) rfl | assumption) ?_
    | refine T_iload_n (pc1 := 125) (pc := 124) k_M_firstBit_124 rfl rfl ?_
    | refine T_ialdN (pc1 := 126) (pc := 125) k_M_firstBit_125 rfl (ga G (by decide) rfl) (by omega) (by omega) hat ?_
    | (with_reducible refine T_icmp_neN (tgt := 134) (pc1 := 129) (pc := 126) k_M_firstBit_126 (by decide) (by decide) (by omega) (by omega) (fun hc => ?_) (fun hc => ?_) <;> first | (exfalso; omega) | skip)
    | refine T_icmp_ne_t (tgt := 134) (pc := 126) k_M_firstBit_126 rfl (by decide) ?_
    | refine T_icmp_ne_f (tgt := 134) (pc1 := 129) (pc := 126) k_M_firstBit_126 rfl rfl (by decide) ?_
    | refine T_icmp_ne (tgt := 134) (pc1 := 129) (pc := 126) k_M_firstBit_126 rfl rfl (fun hc => ?_) (fun hc => ?_)
    | refine T_iload (pc1 := 131) (pc := 129) k_M_firstBit_129 rfl rfl ?_
    | refine T_goto (tgt := 136) (pc := 131) k_M_firstBit_131 rfl ?_
    | refine T_iload (pc1 := 136) (pc := 134) k_M_firstBit_134 rfl rfl ?_
    | refine T_istore (pc1 := 138) (pc := 136) k_M_firstBit_136 rfl (Nat.le_of_ble_eq_true rfl) ?_
    | (refine T_iinc (v := (-1)) (pc1 := 141) (pc := 138) k_M_firstBit_138 rfl rfl (by decide) ?_; rw [hdec])
    | refine T_goto (tgt := 65) (pc := 141) k_M_firstBit_141 rfl ?_
    | refine T_iload (pc1 := 146) (pc := 144) k_M_firstBit_144 rfl rfl ?_
    | refine T_retI (pc := 146) k_M_firstBit_146 rfl (by first | rfl | decide | assumption) ?_)
  exact fill n 0 I (by omega) eqx_rf (fun j hj => absurd hj (Nat.not_lt_zero _))
end M8
