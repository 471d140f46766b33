/-! The model: lay, count, check. -/
section PU14
theorem lay_bad {N So Si Pl Th He : Row} {n : Nat} {sl th k : Int32} (h : ¬ okLay n sl th k) : layA n So Th sl th k = cBAD ∧ layT n So Th sl th k = Th ∧ layH N n So Si Pl He sl th k = He := ⟨by rw [layA, if_neg h], by rw [layT, if_neg (fun q => h q.1)], by rw [layH, if_neg (fun q => h q.1)]⟩
theorem lay_no {N So Si Pl Th He : Row} {n : Nat} {sl th k : Int32} (h : okLay n sl th k) (h2 : th = nI 2 ∧ So k.toNatClampNeg = -1) : layA n So Th sl th k = cNOTHING ∧ layT n So Th sl th k = Th ∧ layH N n So Si Pl He sl th k = He := ⟨by rw [layA, if_pos h, if_pos h2], by rw [layT, if_neg (fun q => q.2 h2)], by rw [layH, if_neg (fun q => q.2 h2)]⟩
theorem lay_ok {N So Si Pl Th He : Row} {n s : Nat} {th k : Int32} (hs : s < 5) (h : okLay n (nI s) th k) (h2 : ¬ (th = nI 2 ∧ So k.toNatClampNeg = -1)) : layA n So Th (nI s) th k = Th s ∧ layT n So Th (nI s) th k = va_up Th s th ∧ layH N n So Si Pl He (nI s) th k = layV N Si Pl (25 * s) th k He := by
  have e : (nI s).toNatClampNeg = s := nI_clamp (by omega)
  exact ⟨by rw [layA, if_pos h, if_neg h2, e], by rw [layT, if_pos ⟨h, h2⟩, e], by rw [layH, if_pos ⟨h, h2⟩, e]⟩
theorem count_bad {N : Row} {n w z : Nat} {v : Int32} (h : ¬ rg 11 v) : countA N n w z v = cBAD := by
  have ne : ∀ i : Nat, i < 11 → ¬ v = nI i := fun i hi q => h (by rw [q]; exact rg_nI hi (by omega))
  unfold countA
  rw [if_neg (ne 0 (by omega)), if_neg (ne 1 (by omega)), if_neg (ne 2 (by omega)), if_neg (ne 3 (by omega)), if_neg (ne 4 (by omega)), if_neg (ne 5 (by omega)), if_neg (ne 6 (by omega)), if_neg (ne 7 (by omega)), if_neg (ne 8 (by omega)), if_neg (ne 9 (by omega)), if_neg (ne 10 (by omega))]
end PU14
section M19
variable {g : Geo} {I : IM} {K : Option Value → Geo → IM → Prop}
set_option maxHeartbeats 4000000 in
theorem c_M_lay {N So Si Pl Th He : Row} {n tn : Nat} {sl th k : Int32} (G : GeoOK g) (hN : I 102 = N) (ok : okL N n tn) (hSo : I 114 = So) (hSi : I 115 = Si) (hPl : I 116 = Pl) (hTh : I 118 = Th) (hHe : I 119 = He) (oks : okS So Si) (kk : ∀ J r, eqx [118, 119] I J → J 118 = layT n So Th sl th k → J 119 = layH N n So Si Pl He sl th k → r = layA n So Th sl th k → K (some (.int r)) g J) : Cl 3 M_M_lay [.ref 101, .int sl, .int th, .int k] g I K := by
  show Rl 3 M_M_lay 0 [some (.ref 101), some (.int sl), some (.int th), some (.int k), none, none, none] [] g I K
  obtain ⟨hn, h14, -⟩ := id ok
  have i0 : (0 : Int32) = nI 0 := rfl
  by_cases hok : okLay n sl th k
  · obtain ⟨s, hs5, rfl⟩ := rg_of hok.1 (by omega)
    have c1 := hok.1
    rcases id hok.2 with rfl | ⟨rfl, hk⟩ | ⟨rfl, hk⟩ | rfl
    · obtain ⟨k1, k2, k3⟩ := lay_ok (N := N) (So := So) (Si := Si) (Pl := Pl) (Th := Th) (He := He) hs5 hok (fun q => absurd q.1 (by decide))
      repeat' (first
        | refine T_iload_n (pc1 := 1) (pc := 0) k_M_lay_0 rfl rfl ?_
        | (with_reducible refine T_if_eqN (tgt := 34) (pc1 := 4) (pc := 1) k_M_lay_1 (by decide) (by decide) (by omega) (fun hc => ?_) (fun hc => ?_) <;> first | (exfalso; omega) | skip)
        | refine T_if_eq_t (tgt := 34) (pc := 1) k_M_lay_1 rfl (by decide) ?_
        | refine T_if_eq_f (tgt := 34) (pc1 := 4) (pc := 1) k_M_lay_1 rfl rfl (by decide) ?_
        | refine T_if_eq (tgt := 34) (pc1 := 4) (pc := 1) k_M_lay_1 rfl rfl (fun hc => ?_) (fun hc => ?_)
        | refine T_iload_n (pc1 := 5) (pc := 4) k_M_lay_4 rfl rfl ?_
        | refine T_iconst (v := (nI 1)) (pc1 := 6) (pc := 5) k_M_lay_5 rfl (by decide) ?_
        | (with_reducible refine T_icmp_neN (tgt := 17) (pc1 := 9) (pc := 6) k_M_lay_6 (by decide) (by decide) (by omega) (by omega) (fun hc => ?_) (fun hc => ?_) <;> first | (exfalso; omega) | skip)
        | refine T_icmp_ne_t (tgt := 17) (pc := 6) k_M_lay_6 rfl (by decide) ?_
        | refine T_icmp_ne_f (tgt := 17) (pc1 := 9) (pc := 6) k_M_lay_6 rfl rfl (by decide) ?_
        | refine T_icmp_ne (tgt := 17) (pc1 := 9) (pc := 6) k_M_lay_6 rfl rfl (fun hc => ?_) (fun hc => ?_)
        | refine T_aload_n (pc1 := 10) (pc := 9) k_M_lay_9 rfl rfl ?_
        | refine T_aload_nN (pc1 := 10) (pc := 9) k_M_lay_9 rfl rfl ?_
        | refine T_iload_n (pc1 := 11) (pc := 10) k_M_lay_10 rfl rfl ?_
        | (refine T_cV (As := [_]) (d1 := 2) (pc1 := 14) (pc := 11) k_M_lay_11 rfl (by decide) (Nat.le_of_ble_eq_true rfl) rfl o_M_isBit l_M_140 rfl (by first | exact ga G (by decide) rfl | assumption) rfl (c_M_isBit G hN hn h14 (fun hw => ?_) (fun hw => ?_)) <;> try dsimp only [psh])
        | (with_reducible refine T_if_neN (tgt := 34) (pc1 := 17) (pc := 14) k_M_lay_14 (by decide) (by decide) (by omega) (fun hc => ?_) (fun hc => ?_) <;> first | (exfalso; omega) | skip)
        | refine T_if_ne_t (tgt := 34) (pc := 14) k_M_lay_14 rfl (by decide) ?_
        | refine T_if_ne_f (tgt := 34) (pc1 := 17) (pc := 14) k_M_lay_14 rfl rfl (by decide) ?_
        | refine T_if_ne (tgt := 34) (pc1 := 17) (pc := 14) k_M_lay_14 rfl rfl (fun hc => ?_) (fun hc => ?_)
        | refine T_iload_n (pc1 := 18) (pc := 17) k_M_lay_17 rfl rfl ?_
        | refine T_iconst (v := (nI 2)) (pc1 := 19) (pc := 18) k_M_lay_18 rfl (by decide) ?_
        | (with_reducible refine T_icmp_neN (tgt := 29) (pc1 := 22) (pc := 19) k_M_lay_19 (by decide) (by decide) (by omega) (by omega) (fun hc => ?_) (fun hc => ?_) <;> first | (exfalso; omega) | skip)
        | refine T_icmp_ne_t (tgt := 29) (pc := 19) k_M_lay_19 rfl (by decide) ?_
        | refine T_icmp_ne_f (tgt := 29) (pc1 := 22) (pc := 19) k_M_lay_19 rfl rfl (by decide) ?_
        | refine T_icmp_ne (tgt := 29) (pc1 := 22) (pc := 19) k_M_lay_19 rfl rfl (fun hc => ?_) (fun hc => ?_)
        | refine T_iload_n (pc1 := 23) (pc := 22) k_M_lay_22 rfl rfl ?_
        | (refine T_cS (As := [_]) (d1 := 2) (pc1 := 26) (pc := 23) k_M_lay_23 rfl (by decide) (Nat.le_of_ble_eq_true rfl) rfl o_M_isSheet l_M_193 rfl (c_M_isSheet (fun hw => ?_) (fun hw => ?_)) <;> try dsimp only [psh])
        | (with_reducible refine T_if_neN (tgt := 34) (pc1 := 29) (pc := 26) k_M_lay_26 (by decide) (by decide) (by omega) (fun hc => ?_) (fun hc => ?_) <;> first | (exfalso; omega) | skip)
        | refine T_if_ne_t (tgt := 34) (pc := 26) k_M_lay_26 rfl (by decide) ?_
        | refine T_if_ne_f (tgt := 34) (pc1 := 29) (pc := 26) k_M_lay_26 rfl rfl (by decide) ?_
        | refine T_if_ne (tgt := 34) (pc1 := 29) (pc := 26) k_M_lay_26 rfl rfl (fun hc => ?_) (fun hc => ?_)
        | refine T_iload_n (pc1 := 30) (pc := 29) k_M_lay_29 rfl rfl ?_
        | refine T_iconst (v := (nI 3)) (pc1 := 31) (pc := 30) k_M_lay_30 rfl (by decide) ?_
        | (with_reducible refine T_icmp_neN (tgt := 38) (pc1 := 34) (pc := 31) k_M_lay_31 (by decide) (by decide) (by omega) (by omega) (fun hc => ?_) (fun hc => ?_) <;> first | (exfalso; omega) | skip)
        | refine T_icmp_ne_t (tgt := 38) (pc := 31) k_M_lay_31 rfl (by decide) ?_
        | refine T_icmp_ne_f (tgt := 38) (pc1 := 34) (pc := 31) k_M_lay_31 rfl rfl (by decide) ?_
        | refine T_icmp_ne (tgt := 38) (pc1 := 34) (pc := 31) k_M_lay_31 rfl rfl (fun hc => ?_) (fun hc => ?_)
        | refine T_iconst (v := (nI 1)) (pc1 := 35) (pc := 34) k_M_lay_34 rfl (by decide) ?_
        | refine T_goto (tgt := 39) (pc := 35) k_M_lay_35 rfl ?_
        | refine T_iconst (v := (nI 0)) (pc1 := 39) (pc := 38) k_M_lay_38 rfl (by decide) ?_
        | refine T_istore (pc1 := 41) (pc := 39) k_M_lay_39 rfl (Nat.le_of_ble_eq_true rfl) ?_
        | refine T_iload_n (pc1 := 42) (pc := 41) k_M_lay_41 rfl rfl ?_
        | (refine T_cS (As := [_]) (d1 := 2) (pc1 := 45) (pc := 42) k_M_lay_42 rfl (by decide) (Nat.le_of_ble_eq_true rfl) rfl o_M_isSlot l_M_300 rfl (c_M_isSlot (fun hw => ?_) (fun hw => ?_)) <;> try dsimp only [psh])
        | (with_reducible refine T_if_eqN (tgt := 53) (pc1 := 48) (pc := 45) k_M_lay_45 (by decide) (by decide) (by omega) (fun hc => ?_) (fun hc => ?_) <;> first | (exfalso; omega) | skip)
        | refine T_if_eq_t (tgt := 53) (pc := 45) k_M_lay_45 rfl (by decide) ?_
        | refine T_if_eq_f (tgt := 53) (pc1 := 48) (pc := 45) k_M_lay_45 rfl rfl (by decide) ?_
        | refine T_if_eq (tgt := 53) (pc1 := 48) (pc := 45) k_M_lay_45 rfl rfl (fun hc => ?_) (fun hc => ?_)
        | refine T_iload (pc1 := 50) (pc := 48) k_M_lay_48 rfl rfl ?_
        | (with_reducible refine T_if_neN (tgt := 56) (pc1 := 53) (pc := 50) k_M_lay_50 (by decide) (by decide) (by omega) (fun hc => ?_) (fun hc => ?_) <;> first | (exfalso; omega) | skip)
        | refine T_if_ne_t (tgt := 56) (pc := 50) k_M_lay_50 rfl (by decide) ?_
        | refine T_if_ne_f (tgt := 56) (pc1 := 53) (pc := 50) k_M_lay_50 rfl rfl (by decide) ?_
        | refine T_if_ne (tgt := 56) (pc1 := 53) (pc := 50) k_M_lay_50 rfl rfl (fun hc => ?_) (fun hc => ?_)
        | refine T_ldc (v := (-1000000001)) (pc1 := 55) (pc := 53) k_M_lay_53 rfl c_M_111 ?_
        | refine T_retI (pc := 55) k_M_lay_55 rfl (by first | rfl | decide | assumption) ?_
        | refine T_bipush (v := (nI 25)) (pc1 := 58) (pc := 56) k_M_lay_56 rfl (by decide) ?_
        | refine T_iload_n (pc1 := 59) (pc := 58) k_M_lay_58 rfl rfl ?_
        | with_reducible refine T_imulN (pc1 := 60) (pc := 59) k_M_lay_59 (by decide) ?_
        | refine T_imul (pc1 := 60) (pc := 59) k_M_lay_59 rfl ?_
        | refine T_istore (pc1 := 62) (pc := 60) k_M_lay_60 rfl (Nat.le_of_ble_eq_true rfl) ?_
        | refine T_iload_n (pc1 := 63) (pc := 62) k_M_lay_62 rfl rfl ?_
        | refine T_iconst (v := (nI 2)) (pc1 := 64) (pc := 63) k_M_lay_63 rfl (by decide) ?_
        | (with_reducible refine T_icmp_neN (tgt := 135) (pc1 := 67) (pc := 64) k_M_lay_64 (by decide) (by decide) (by omega) (by omega) (fun hc => ?_) (fun hc => ?_) <;> first | (exfalso; omega) | skip)
        | refine T_icmp_ne_t (tgt := 135) (pc := 64) k_M_lay_64 rfl (by decide) ?_
        | refine T_icmp_ne_f (tgt := 135) (pc1 := 67) (pc := 64) k_M_lay_64 rfl rfl (by decide) ?_
        | refine T_icmp_ne (tgt := 135) (pc1 := 67) (pc := 64) k_M_lay_64 rfl rfl (fun hc => ?_) (fun hc => ?_)
        | refine T_aload_n (pc1 := 68) (pc := 67) k_M_lay_67 rfl rfl ?_
        | refine T_aload_nN (pc1 := 68) (pc := 67) k_M_lay_67 rfl rfl ?_
        | refine T_getR (pc1 := 71) (pc := 68) k_M_lay_68 rfl f_M_61 rfl (by first | exact ga G (by decide) rfl | assumption) (by first | exact gr G (by decide) rfl | assumption) ?_
        | refine T_iload_n (pc1 := 72) (pc := 71) k_M_lay_71 rfl rfl ?_
        | refine T_ialdN (pc1 := 73) (pc := 72) k_M_lay_72 rfl (by first | exact ga G (by decide) rfl | assumption) (by omega) (by omega) (by first | assumption | (simp (disch := omega) only [pI_eq, pI_row, pI_col, va_up_self, va_up_ne, ne_eq, not_false_eq_true] <;> rfl) | rfl) ?_
        | refine T_iald (pc1 := 73) (pc := 72) k_M_lay_72 rfl (by first | exact ga G (by decide) rfl | assumption) (by assumption) ?_
        | (with_reducible refine T_if_geN (tgt := 79) (pc1 := 76) (pc := 73) k_M_lay_73 (by decide) (by decide) (by omega) ?_ <;> first | (exfalso; omega) | skip)
        | refine T_if_ge_t (tgt := 79) (pc := 73) k_M_lay_73 rfl (by decide) ?_
        | refine T_if_ge_f (tgt := 79) (pc1 := 76) (pc := 73) k_M_lay_73 rfl rfl (by decide) ?_
        | refine T_if_ge (tgt := 79) (pc1 := 76) (pc := 73) k_M_lay_73 rfl rfl (fun hc => ?_) (fun hc => ?_)
        | refine T_ldc (v := (-1000000011)) (pc1 := 78) (pc := 76) k_M_lay_76 rfl c_M_196 ?_
        | refine T_retI (pc := 78) k_M_lay_78 rfl (by first | rfl | decide | assumption) ?_
        | refine T_aload_n (pc1 := 80) (pc := 79) k_M_lay_79 rfl rfl ?_
        | refine T_aload_nN (pc1 := 80) (pc := 79) k_M_lay_79 rfl rfl ?_
        | refine T_getR (pc1 := 83) (pc := 80) k_M_lay_80 rfl f_M_76 rfl (by first | exact ga G (by decide) rfl | assumption) (by first | exact gr G (by decide) rfl | assumption) ?_
        | refine T_iload (pc1 := 85) (pc := 83) k_M_lay_83 rfl rfl ?_
        | refine T_aload_n (pc1 := 86) (pc := 85) k_M_lay_85 rfl rfl ?_
        | refine T_aload_nN (pc1 := 86) (pc := 85) k_M_lay_85 rfl rfl ?_
        | refine T_getR (pc1 := 89) (pc := 86) k_M_lay_86 rfl f_M_64 rfl (by first | exact ga G (by decide) rfl | assumption) (by first | exact gr G (by decide) rfl | assumption) ?_
        | refine T_iload_n (pc1 := 90) (pc := 89) k_M_lay_89 rfl rfl ?_
        | refine T_ialdN (pc1 := 91) (pc := 90) k_M_lay_90 rfl (by first | exact ga G (by decide) rfl | assumption) (by omega) (by omega) (by first | assumption | (simp (disch := omega) only [pI_eq, pI_row, pI_col, va_up_self, va_up_ne, ne_eq, not_false_eq_true] <;> rfl) | rfl) ?_
        | refine T_iald (pc1 := 91) (pc := 90) k_M_lay_90 rfl (by first | exact ga G (by decide) rfl | assumption) (by assumption) ?_
        | refine T_iastN (pc1 := 92) (pc := 91) k_M_lay_91 rfl (by first | exact ga G (by decide) rfl | assumption) (by omega) (by omega) ?_
        | refine T_iconst (v := (nI 0)) (pc1 := 93) (pc := 92) k_M_lay_92 rfl (by decide) ?_
        | refine T_istore (pc1 := 95) (pc := 93) k_M_lay_93 rfl (Nat.le_of_ble_eq_true rfl) ?_
        | refine T_iload (pc1 := 97) (pc := 95) k_M_lay_95 rfl rfl ?_
        | refine T_bipush (v := (nI 24)) (pc1 := 99) (pc := 97) k_M_lay_97 rfl (by decide) ?_
        | (with_reducible refine T_icmp_geN (tgt := 132) (pc1 := 102) (pc := 99) k_M_lay_99 (by decide) (by decide) (by omega) (by omega) (fun hc => ?_) (fun hc => ?_) <;> first | (exfalso; omega) | skip)
        | refine T_icmp_ge_t (tgt := 132) (pc := 99) k_M_lay_99 rfl (by decide) ?_
        | refine T_icmp_ge_f (tgt := 132) (pc1 := 102) (pc := 99) k_M_lay_99 rfl rfl (by decide) ?_
        | refine T_icmp_ge (tgt := 132) (pc1 := 102) (pc := 99) k_M_lay_99 rfl rfl (fun hc => ?_) (fun hc => ?_)
        | refine T_aload_n (pc1 := 103) (pc := 102) k_M_lay_102 rfl rfl ?_
        | refine T_aload_nN (pc1 := 103) (pc := 102) k_M_lay_102 rfl rfl ?_
        | refine T_getR (pc1 := 106) (pc := 103) k_M_lay_103 rfl f_M_76 rfl (by first | exact ga G (by decide) rfl | assumption) (by first | exact gr G (by decide) rfl | assumption) ?_
        | refine T_iload (pc1 := 108) (pc := 106) k_M_lay_106 rfl rfl ?_
        | refine T_iconst (v := (nI 1)) (pc1 := 109) (pc := 108) k_M_lay_108 rfl (by decide) ?_
        | with_reducible refine T_iaddN (pc1 := 110) (pc := 109) k_M_lay_109 (by decide) ?_
        | refine T_iadd (pc1 := 110) (pc := 109) k_M_lay_109 rfl ?_
        | refine T_iload (pc1 := 112) (pc := 110) k_M_lay_110 rfl rfl ?_
        | with_reducible refine T_iaddN (pc1 := 113) (pc := 112) k_M_lay_112 (by decide) ?_
        | refine T_iadd (pc1 := 113) (pc := 112) k_M_lay_112 rfl ?_
        | refine T_aload_n (pc1 := 114) (pc := 113) k_M_lay_113 rfl rfl ?_
        | refine T_aload_nN (pc1 := 114) (pc := 113) k_M_lay_113 rfl rfl ?_
        | refine T_getR (pc1 := 117) (pc := 114) k_M_lay_114 rfl f_M_67 rfl (by first | exact ga G (by decide) rfl | assumption) (by first | exact gr G (by decide) rfl | assumption) ?_
        | refine T_bipush (v := (nI 24)) (pc1 := 119) (pc := 117) k_M_lay_117 rfl (by decide) ?_
        | refine T_iload_n (pc1 := 120) (pc := 119) k_M_lay_119 rfl rfl ?_
        | with_reducible refine T_imulN (pc1 := 121) (pc := 120) k_M_lay_120 (by decide) ?_
        | refine T_imul (pc1 := 121) (pc := 120) k_M_lay_120 rfl ?_
        | refine T_iload (pc1 := 123) (pc := 121) k_M_lay_121 rfl rfl ?_
        | with_reducible refine T_iaddN (pc1 := 124) (pc := 123) k_M_lay_123 (by decide) ?_
        | refine T_iadd (pc1 := 124) (pc := 123) k_M_lay_123 rfl ?_
        | refine T_ialdN (pc1 := 125) (pc := 124) k_M_lay_124 rfl (by first | exact ga G (by decide) rfl | assumption) (by omega) (by omega) (by first | assumption | (simp (disch := omega) only [pI_eq, pI_row, pI_col, va_up_self, va_up_ne, ne_eq, not_false_eq_true] <;> rfl) | rfl) ?_
        | refine T_iald (pc1 := 125) (pc := 124) k_M_lay_124 rfl (by first | exact ga G (by decide) rfl | assumption) (by assumption) ?_
        | refine T_iastN (pc1 := 126) (pc := 125) k_M_lay_125 rfl (by first | exact ga G (by decide) rfl | assumption) (by omega) (by omega) ?_
        | refine T_iincN (b := 1) (pc1 := 129) (pc := 126) k_M_lay_126 rfl rfl (by decide) ?_
        | refine T_iinc (v := (nI 1)) (pc1 := 129) (pc := 126) k_M_lay_126 rfl rfl (by decide) ?_
        | refine T_goto (tgt := 95) (pc := 129) k_M_lay_129 rfl ?_
        | refine T_goto (tgt := 179) (pc := 132) k_M_lay_132 rfl ?_
        | refine T_iload_n (pc1 := 136) (pc := 135) k_M_lay_135 rfl rfl ?_
        | refine T_iconst (v := (nI 1)) (pc1 := 137) (pc := 136) k_M_lay_136 rfl (by decide) ?_
        | (with_reducible refine T_icmp_neN (tgt := 171) (pc1 := 140) (pc := 137) k_M_lay_137 (by decide) (by decide) (by omega) (by omega) (fun hc => ?_) (fun hc => ?_) <;> first | (exfalso; omega) | skip)
        | refine T_icmp_ne_t (tgt := 171) (pc := 137) k_M_lay_137 rfl (by decide) ?_
        | refine T_icmp_ne_f (tgt := 171) (pc1 := 140) (pc := 137) k_M_lay_137 rfl rfl (by decide) ?_
        | refine T_icmp_ne (tgt := 171) (pc1 := 140) (pc := 137) k_M_lay_137 rfl rfl (fun hc => ?_) (fun hc => ?_)
        | refine T_aload_n (pc1 := 141) (pc := 140) k_M_lay_140 rfl rfl ?_
        | refine T_aload_nN (pc1 := 141) (pc := 140) k_M_lay_140 rfl rfl ?_
        | refine T_getR (pc1 := 144) (pc := 141) k_M_lay_141 rfl f_M_76 rfl (by first | exact ga G (by decide) rfl | assumption) (by first | exact gr G (by decide) rfl | assumption) ?_
        | refine T_iload (pc1 := 146) (pc := 144) k_M_lay_144 rfl rfl ?_
        | refine T_aload_n (pc1 := 147) (pc := 146) k_M_lay_146 rfl rfl ?_
        | refine T_aload_nN (pc1 := 147) (pc := 146) k_M_lay_146 rfl rfl ?_
        | refine T_iload_n (pc1 := 148) (pc := 147) k_M_lay_147 rfl rfl ?_
        | refine T_iconst (v := (nI 0)) (pc1 := 149) (pc := 148) k_M_lay_148 rfl (by decide) ?_
        | (refine T_cV (As := [_, _]) (d1 := 1) (pc1 := 152) (pc := 149) k_M_lay_149 rfl (by decide) (Nat.le_of_ble_eq_true rfl) rfl o_M_bitIs l_M_124 rfl (by first | exact ga G (by decide) rfl | assumption) rfl (c_M_bitN G (by assumption) (by omega) (by omega) (by first | assumption | rfl) ?_) <;> try dsimp only [psh])
        | refine T_iastN (pc1 := 153) (pc := 152) k_M_lay_152 rfl (by first | exact ga G (by decide) rfl | assumption) (by omega) (by omega) ?_
        | refine T_aload_n (pc1 := 154) (pc := 153) k_M_lay_153 rfl rfl ?_
        | refine T_aload_nN (pc1 := 154) (pc := 153) k_M_lay_153 rfl rfl ?_
        | refine T_getR (pc1 := 157) (pc := 154) k_M_lay_154 rfl f_M_76 rfl (by first | exact ga G (by decide) rfl | assumption) (by first | exact gr G (by decide) rfl | assumption) ?_
        | refine T_iload (pc1 := 159) (pc := 157) k_M_lay_157 rfl rfl ?_
        | refine T_iconst (v := (nI 1)) (pc1 := 160) (pc := 159) k_M_lay_159 rfl (by decide) ?_
        | with_reducible refine T_iaddN (pc1 := 161) (pc := 160) k_M_lay_160 (by decide) ?_
        | refine T_iadd (pc1 := 161) (pc := 160) k_M_lay_160 rfl ?_
        | refine T_aload_n (pc1 := 162) (pc := 161) k_M_lay_161 rfl rfl ?_
        | refine T_aload_nN (pc1 := 162) (pc := 161) k_M_lay_161 rfl rfl ?_
        | refine T_iload_n (pc1 := 163) (pc := 162) k_M_lay_162 rfl rfl ?_
        | refine T_iconst (v := (nI 3)) (pc1 := 164) (pc := 163) k_M_lay_163 rfl (by decide) ?_
        | (refine T_cV (As := [_, _]) (d1 := 1) (pc1 := 167) (pc := 164) k_M_lay_164 rfl (by decide) (Nat.le_of_ble_eq_true rfl) rfl o_M_bitIs l_M_124 rfl (by first | exact ga G (by decide) rfl | assumption) rfl (c_M_bitN G (by assumption) (by omega) (by omega) (by first | assumption | rfl) ?_) <;> try dsimp only [psh])
        | refine T_iastN (pc1 := 168) (pc := 167) k_M_lay_167 rfl (by first | exact ga G (by decide) rfl | assumption) (by omega) (by omega) ?_
        | refine T_goto (tgt := 179) (pc := 168) k_M_lay_168 rfl ?_
        | refine T_aload_n (pc1 := 172) (pc := 171) k_M_lay_171 rfl rfl ?_
        | refine T_aload_nN (pc1 := 172) (pc := 171) k_M_lay_171 rfl rfl ?_
        | refine T_getR (pc1 := 175) (pc := 172) k_M_lay_172 rfl f_M_76 rfl (by first | exact ga G (by decide) rfl | assumption) (by first | exact gr G (by decide) rfl | assumption) ?_
        | refine T_iload (pc1 := 177) (pc := 175) k_M_lay_175 rfl rfl ?_
        | refine T_iload_n (pc1 := 178) (pc := 177) k_M_lay_177 rfl rfl ?_
        | refine T_iastN (pc1 := 179) (pc := 178) k_M_lay_178 rfl (by first | exact ga G (by decide) rfl | assumption) (by omega) (by omega) ?_
        | refine T_aload_n (pc1 := 180) (pc := 179) k_M_lay_179 rfl rfl ?_
        | refine T_aload_nN (pc1 := 180) (pc := 179) k_M_lay_179 rfl rfl ?_
        | refine T_iload_n (pc1 := 181) (pc := 180) k_M_lay_180 rfl rfl ?_
        | refine T_iload_n (pc1 := 182) (pc := 181) k_M_lay_181 rfl rfl ?_
        | (refine T_cV (As := [_, _]) (d1 := 1) (pc1 := 185) (pc := 182) k_M_lay_182 rfl (by decide) (Nat.le_of_ble_eq_true rfl) rfl o_M_holds l_M_303 rfl (by first | exact ga G (by decide) rfl | assumption) rfl (c_M_holds (Th := Th) G (by rw [pI_rw (by decide)]; exact hTh) (by omega) ?_) <;> try dsimp only [psh])
        | refine T_retI (pc := 185) k_M_lay_185 rfl (by first | rfl | decide | assumption) ?_)
      all_goals first | contradiction | exact kk _ _ (eqx_pI (eqx_pI eqx_rf _ (by decide)) _ (by decide)) (by rw [pI_self, pI_rw (by decide), hTh, k2]) (by rw [pI_rw (by decide), upI hHe, k3]; rfl) k1.symm
    · obtain ⟨k1, k2, k3⟩ := lay_ok (N := N) (So := So) (Si := Si) (Pl := Pl) (Th := Th) (He := He) hs5 hok (fun q => absurd q.1 (by decide))
      obtain ⟨b, hb, rfl⟩ := rg_of hk (by omega)
      rw [layV, if_neg (by decide), if_pos rfl, nI_clamp (by omega)] at k3
      repeat' (first
        | refine T_iload_n (pc1 := 1) (pc := 0) k_M_lay_0 rfl rfl ?_
        | (with_reducible refine T_if_eqN (tgt := 34) (pc1 := 4) (pc := 1) k_M_lay_1 (by decide) (by decide) (by omega) (fun hc => ?_) (fun hc => ?_) <;> first | (exfalso; omega) | skip)
        | refine T_if_eq_t (tgt := 34) (pc := 1) k_M_lay_1 rfl (by decide) ?_
        | refine T_if_eq_f (tgt := 34) (pc1 := 4) (pc := 1) k_M_lay_1 rfl rfl (by decide) ?_
        | refine T_if_eq (tgt := 34) (pc1 := 4) (pc := 1) k_M_lay_1 rfl rfl (fun hc => ?_) (fun hc => ?_)
        | refine T_iload_n (pc1 := 5) (pc := 4) k_M_lay_4 rfl rfl ?_
        | refine T_iconst (v := (nI 1)) (pc1 := 6) (pc := 5) k_M_lay_5 rfl (by decide) ?_
        | (with_reducible refine T_icmp_neN (tgt := 17) (pc1 := 9) (pc := 6) k_M_lay_6 (by decide) (by decide) (by omega) (by omega) (fun hc => ?_) (fun hc => ?_) <;> first | (exfalso; omega) | skip)
        | refine T_icmp_ne_t (tgt := 17) (pc := 6) k_M_lay_6 rfl (by decide) ?_
        | refine T_icmp_ne_f (tgt := 17) (pc1 := 9) (pc := 6) k_M_lay_6 rfl rfl (by decide) ?_
        | refine T_icmp_ne (tgt := 17) (pc1 := 9) (pc := 6) k_M_lay_6 rfl rfl (fun hc => ?_) (fun hc => ?_)
        | refine T_aload_n (pc1 := 10) (pc := 9) k_M_lay_9 rfl rfl ?_
        | refine T_aload_nN (pc1 := 10) (pc := 9) k_M_lay_9 rfl rfl ?_
        | refine T_iload_n (pc1 := 11) (pc := 10) k_M_lay_10 rfl rfl ?_
        | (refine T_cV (As := [_]) (d1 := 2) (pc1 := 14) (pc := 11) k_M_lay_11 rfl (by decide) (Nat.le_of_ble_eq_true rfl) rfl o_M_isBit l_M_140 rfl (by first | exact ga G (by decide) rfl | assumption) rfl (c_M_isBit G hN hn h14 (fun hw => ?_) (fun hw => ?_)) <;> try dsimp only [psh])
        | (with_reducible refine T_if_neN (tgt := 34) (pc1 := 17) (pc := 14) k_M_lay_14 (by decide) (by decide) (by omega) (fun hc => ?_) (fun hc => ?_) <;> first | (exfalso; omega) | skip)
        | refine T_if_ne_t (tgt := 34) (pc := 14) k_M_lay_14 rfl (by decide) ?_
        | refine T_if_ne_f (tgt := 34) (pc1 := 17) (pc := 14) k_M_lay_14 rfl rfl (by decide) ?_
        | refine T_if_ne (tgt := 34) (pc1 := 17) (pc := 14) k_M_lay_14 rfl rfl (fun hc => ?_) (fun hc => ?_)
        | refine T_iload_n (pc1 := 18) (pc := 17) k_M_lay_17 rfl rfl ?_
        | refine T_iconst (v := (nI 2)) (pc1 := 19) (pc := 18) k_M_lay_18 rfl (by decide) ?_
        | (with_reducible refine T_icmp_neN (tgt := 29) (pc1 := 22) (pc := 19) k_M_lay_19 (by decide) (by decide) (by omega) (by omega) (fun hc => ?_) (fun hc => ?_) <;> first | (exfalso; omega) | skip)
        | refine T_icmp_ne_t (tgt := 29) (pc := 19) k_M_lay_19 rfl (by decide) ?_
        | refine T_icmp_ne_f (tgt := 29) (pc1 := 22) (pc := 19) k_M_lay_19 rfl rfl (by decide) ?_
        | refine T_icmp_ne (tgt := 29) (pc1 := 22) (pc := 19) k_M_lay_19 rfl rfl (fun hc => ?_) (fun hc => ?_)
        | refine T_iload_n (pc1 := 23) (pc := 22) k_M_lay_22 rfl rfl ?_
        | (refine T_cS (As := [_]) (d1 := 2) (pc1 := 26) (pc := 23) k_M_lay_23 rfl (by decide) (Nat.le_of_ble_eq_true rfl) rfl o_M_isSheet l_M_193 rfl (c_M_isSheet (fun hw => ?_) (fun hw => ?_)) <;> try dsimp only [psh])
        | (with_reducible refine T_if_neN (tgt := 34) (pc1 := 29) (pc := 26) k_M_lay_26 (by decide) (by decide) (by omega) (fun hc => ?_) (fun hc => ?_) <;> first | (exfalso; omega) | skip)
        | refine T_if_ne_t (tgt := 34) (pc := 26) k_M_lay_26 rfl (by decide) ?_
        | refine T_if_ne_f (tgt := 34) (pc1 := 29) (pc := 26) k_M_lay_26 rfl rfl (by decide) ?_
        | refine T_if_ne (tgt := 34) (pc1 := 29) (pc := 26) k_M_lay_26 rfl rfl (fun hc => ?_) (fun hc => ?_)
        | refine T_iload_n (pc1 := 30) (pc := 29) k_M_lay_29 rfl rfl ?_
        | refine T_iconst (v := (nI 3)) (pc1 := 31) (pc := 30) k_M_lay_30 rfl (by decide) ?_
        | (with_reducible refine T_icmp_neN (tgt := 38) (pc1 := 34) (pc := 31) k_M_lay_31 (by decide) (by decide) (by omega) (by omega) (fun hc => ?_) (fun hc => ?_) <;> first | (exfalso; omega) | skip)
        | refine T_icmp_ne_t (tgt := 38) (pc := 31) k_M_lay_31 rfl (by decide) ?_
        | refine T_icmp_ne_f (tgt := 38) (pc1 := 34) (pc := 31) k_M_lay_31 rfl rfl (by decide) ?_
        | refine T_icmp_ne (tgt := 38) (pc1 := 34) (pc := 31) k_M_lay_31 rfl rfl (fun hc => ?_) (fun hc => ?_)
        | refine T_iconst (v := (nI 1)) (pc1 := 35) (pc := 34) k_M_lay_34 rfl (by decide) ?_
        | refine T_goto (tgt := 39) (pc := 35) k_M_lay_35 rfl ?_
        | refine T_iconst (v := (nI 0)) (pc1 := 39) (pc := 38) k_M_lay_38 rfl (by decide) ?_
        | refine T_istore (pc1 := 41) (pc := 39) k_M_lay_39 rfl (Nat.le_of_ble_eq_true rfl) ?_
        | refine T_iload_n (pc1 := 42) (pc := 41) k_M_lay_41 rfl rfl ?_
        | (refine T_cS (As := [_]) (d1 := 2) (pc1 := 45) (pc := 42) k_M_lay_42 rfl (by decide) (Nat.le_of_ble_eq_true rfl) rfl o_M_isSlot l_M_300 rfl (c_M_isSlot (fun hw => ?_) (fun hw => ?_)) <;> try dsimp only [psh])
        | (with_reducible refine T_if_eqN (tgt := 53) (pc1 := 48) (pc := 45) k_M_lay_45 (by decide) (by decide) (by omega) (fun hc => ?_) (fun hc => ?_) <;> first | (exfalso; omega) | skip)
        | refine T_if_eq_t (tgt := 53) (pc := 45) k_M_lay_45 rfl (by decide) ?_
        | refine T_if_eq_f (tgt := 53) (pc1 := 48) (pc := 45) k_M_lay_45 rfl rfl (by decide) ?_
        | refine T_if_eq (tgt := 53) (pc1 := 48) (pc := 45) k_M_lay_45 rfl rfl (fun hc => ?_) (fun hc => ?_)
        | refine T_iload (pc1 := 50) (pc := 48) k_M_lay_48 rfl rfl ?_
        | (with_reducible refine T_if_neN (tgt := 56) (pc1 := 53) (pc := 50) k_M_lay_50 (by decide) (by decide) (by omega) (fun hc => ?_) (fun hc => ?_) <;> first | (exfalso; omega) | skip)
        | refine T_if_ne_t (tgt := 56) (pc := 50) k_M_lay_50 rfl (by decide) ?_
        | refine T_if_ne_f (tgt := 56) (pc1 := 53) (pc := 50) k_M_lay_50 rfl rfl (by decide) ?_
        | refine T_if_ne (tgt := 56) (pc1 := 53) (pc := 50) k_M_lay_50 rfl rfl (fun hc => ?_) (fun hc => ?_)
        | refine T_ldc (v := (-1000000001)) (pc1 := 55) (pc := 53) k_M_lay_53 rfl c_M_111 ?_
        | refine T_retI (pc := 55) k_M_lay_55 rfl (by first | rfl | decide | assumption) ?_
        | refine T_bipush (v := (nI 25)) (pc1 := 58) (pc := 56) k_M_lay_56 rfl (by decide) ?_
        | refine T_iload_n (pc1 := 59) (pc := 58) k_M_lay_58 rfl rfl ?_
        | with_reducible refine T_imulN (pc1 := 60) (pc := 59) k_M_lay_59 (by decide) ?_
        | refine T_imul (pc1 := 60) (pc := 59) k_M_lay_59 rfl ?_
        | refine T_istore (pc1 := 62) (pc := 60) k_M_lay_60 rfl (Nat.le_of_ble_eq_true rfl) ?_
        | refine T_iload_n (pc1 := 63) (pc := 62) k_M_lay_62 rfl rfl ?_
        | refine T_iconst (v := (nI 2)) (pc1 := 64) (pc := 63) k_M_lay_63 rfl (by decide) ?_
        | (with_reducible refine T_icmp_neN (tgt := 135) (pc1 := 67) (pc := 64) k_M_lay_64 (by decide) (by decide) (by omega) (by omega) (fun hc => ?_) (fun hc => ?_) <;> first | (exfalso; omega) | skip)
        | refine T_icmp_ne_t (tgt := 135) (pc := 64) k_M_lay_64 rfl (by decide) ?_
        | refine T_icmp_ne_f (tgt := 135) (pc1 := 67) (pc := 64) k_M_lay_64 rfl rfl (by decide) ?_
        | refine T_icmp_ne (tgt := 135) (pc1 := 67) (pc := 64) k_M_lay_64 rfl rfl (fun hc => ?_) (fun hc => ?_)
        | refine T_aload_n (pc1 := 68) (pc := 67) k_M_lay_67 rfl rfl ?_
        | refine T_aload_nN (pc1 := 68) (pc := 67) k_M_lay_67 rfl rfl ?_
        | refine T_getR (pc1 := 71) (pc := 68) k_M_lay_68 rfl f_M_61 rfl (by first | exact ga G (by decide) rfl | assumption) (by first | exact gr G (by decide) rfl | assumption) ?_
        | refine T_iload_n (pc1 := 72) (pc := 71) k_M_lay_71 rfl rfl ?_
        | refine T_ialdN (pc1 := 73) (pc := 72) k_M_lay_72 rfl (by first | exact ga G (by decide) rfl | assumption) (by omega) (by omega) (by first | assumption | (simp (disch := omega) only [pI_eq, pI_row, pI_col, va_up_self, va_up_ne, ne_eq, not_false_eq_true] <;> rfl) | rfl) ?_
        | refine T_iald (pc1 := 73) (pc := 72) k_M_lay_72 rfl (by first | exact ga G (by decide) rfl | assumption) (by assumption) ?_
        | (with_reducible refine T_if_geN (tgt := 79) (pc1 := 76) (pc := 73) k_M_lay_73 (by decide) (by decide) (by omega) ?_ <;> first | (exfalso; omega) | skip)
        | refine T_if_ge_t (tgt := 79) (pc := 73) k_M_lay_73 rfl (by decide) ?_
        | refine T_if_ge_f (tgt := 79) (pc1 := 76) (pc := 73) k_M_lay_73 rfl rfl (by decide) ?_
        | refine T_if_ge (tgt := 79) (pc1 := 76) (pc := 73) k_M_lay_73 rfl rfl (fun hc => ?_) (fun hc => ?_)
        | refine T_ldc (v := (-1000000011)) (pc1 := 78) (pc := 76) k_M_lay_76 rfl c_M_196 ?_
        | refine T_retI (pc := 78) k_M_lay_78 rfl (by first | rfl | decide | assumption) ?_
        | refine T_aload_n (pc1 := 80) (pc := 79) k_M_lay_79 rfl rfl ?_
        | refine T_aload_nN (pc1 := 80) (pc := 79) k_M_lay_79 rfl rfl ?_
        | refine T_getR (pc1 := 83) (pc := 80) k_M_lay_80 rfl f_M_76 rfl (by first | exact ga G (by decide) rfl | assumption) (by first | exact gr G (by decide) rfl | assumption) ?_
        | refine T_iload (pc1 := 85) (pc := 83) k_M_lay_83 rfl rfl ?_
        | refine T_aload_n (pc1 := 86) (pc := 85) k_M_lay_85 rfl rfl ?_
        | refine T_aload_nN (pc1 := 86) (pc := 85) k_M_lay_85 rfl rfl ?_
        | refine T_getR (pc1 := 89) (pc := 86) k_M_lay_86 rfl f_M_64 rfl (by first | exact ga G (by decide) rfl | assumption) (by first | exact gr G (by decide) rfl | assumption) ?_
        | refine T_iload_n (pc1 := 90) (pc := 89) k_M_lay_89 rfl rfl ?_
        | refine T_ialdN (pc1 := 91) (pc := 90) k_M_lay_90 rfl (by first | exact ga G (by decide) rfl | assumption) (by omega) (by omega) (by first | assumption | (simp (disch := omega) only [pI_eq, pI_row, pI_col, va_up_self, va_up_ne, ne_eq, not_false_eq_true] <;> rfl) | rfl) ?_
        | refine T_iald (pc1 := 91) (pc := 90) k_M_lay_90 rfl (by first | exact ga G (by decide) rfl | assumption) (by assumption) ?_
        | refine T_iastN (pc1 := 92) (pc := 91) k_M_lay_91 rfl (by first | exact ga G (by decide) rfl | assumption) (by omega) (by omega) ?_
        | refine T_iconst (v := (nI 0)) (pc1 := 93) (pc := 92) k_M_lay_92 rfl (by decide) ?_
        | refine T_istore (pc1 := 95) (pc := 93) k_M_lay_93 rfl (Nat.le_of_ble_eq_true rfl) ?_
        | refine T_iload (pc1 := 97) (pc := 95) k_M_lay_95 rfl rfl ?_
        | refine T_bipush (v := (nI 24)) (pc1 := 99) (pc := 97) k_M_lay_97 rfl (by decide) ?_
        | (with_reducible refine T_icmp_geN (tgt := 132) (pc1 := 102) (pc := 99) k_M_lay_99 (by decide) (by decide) (by omega) (by omega) (fun hc => ?_) (fun hc => ?_) <;> first | (exfalso; omega) | skip)
        | refine T_icmp_ge_t (tgt := 132) (pc := 99) k_M_lay_99 rfl (by decide) ?_
        | refine T_icmp_ge_f (tgt := 132) (pc1 := 102) (pc := 99) k_M_lay_99 rfl rfl (by decide) ?_
        | refine T_icmp_ge (tgt := 132) (pc1 := 102) (pc := 99) k_M_lay_99 rfl rfl (fun hc => ?_) (fun hc => ?_)
        | refine T_aload_n (pc1 := 103) (pc := 102) k_M_lay_102 rfl rfl ?_
        | refine T_aload_nN (pc1 := 103) (pc := 102) k_M_lay_102 rfl rfl ?_
        | refine T_getR (pc1 := 106) (pc := 103) k_M_lay_103 rfl f_M_76 rfl (by first | exact ga G (by decide) rfl | assumption) (by first | exact gr G (by decide) rfl | assumption) ?_
        | refine T_iload (pc1 := 108) (pc := 106) k_M_lay_106 rfl rfl ?_
        | refine T_iconst (v := (nI 1)) (pc1 := 109) (pc := 108) k_M_lay_108 rfl (by decide) ?_
        | with_reducible refine T_iaddN (pc1 := 110) (pc := 109) k_M_lay_109 (by decide) ?_
        | refine T_iadd (pc1 := 110) (pc := 109) k_M_lay_109 rfl ?_
        | refine T_iload (pc1 := 112) (pc := 110) k_M_lay_110 rfl rfl ?_
        | with_reducible refine T_iaddN (pc1 := 113) (pc := 112) k_M_lay_112 (by decide) ?_
        | refine T_iadd (pc1 := 113) (pc := 112) k_M_lay_112 rfl ?_
        | refine T_aload_n (pc1 := 114) (pc := 113) k_M_lay_113 rfl rfl ?_
        | refine T_aload_nN (pc1 := 114) (pc := 113) k_M_lay_113 rfl rfl ?_
        | refine T_getR (pc1 := 117) (pc := 114) k_M_lay_114 rfl f_M_67 rfl (by first | exact ga G (by decide) rfl | assumption) (by first | exact gr G (by decide) rfl | assumption) ?_
        | refine T_bipush (v := (nI 24)) (pc1 := 119) (pc := 117) k_M_lay_117 rfl (by decide) ?_
        | refine T_iload_n (pc1 := 120) (pc := 119) k_M_lay_119 rfl rfl ?_
        | with_reducible refine T_imulN (pc1 := 121) (pc := 120) k_M_lay_120 (by decide) ?_
        | refine T_imul (pc1 := 121) (pc := 120) k_M_lay_120 rfl ?_
        | refine T_iload (pc1 := 123) (pc := 121) k_M_lay_121 rfl rfl ?_
        | with_reducible refine T_iaddN (pc1 := 124) (pc := 123) k_M_lay_123 (by decide) ?_
        | refine T_iadd (pc1 := 124) (pc := 123) k_M_lay_123 rfl ?_
        | refine T_ialdN (pc1 := 125) (pc := 124) k_M_lay_124 rfl (by first | exact ga G (by decide) rfl | assumption) (by omega) (by omega) (by first | assumption | (simp (disch := omega) only [pI_eq, pI_row, pI_col, va_up_self, va_up_ne, ne_eq, not_false_eq_true] <;> rfl) | rfl) ?_
        | refine T_iald (pc1 := 125) (pc := 124) k_M_lay_124 rfl (by first | exact ga G (by decide) rfl | assumption) (by assumption) ?_
        | refine T_iastN (pc1 := 126) (pc := 125) k_M_lay_125 rfl (by first | exact ga G (by decide) rfl | assumption) (by omega) (by omega) ?_
        | refine T_iincN (b := 1) (pc1 := 129) (pc := 126) k_M_lay_126 rfl rfl (by decide) ?_
        | refine T_iinc (v := (nI 1)) (pc1 := 129) (pc := 126) k_M_lay_126 rfl rfl (by decide) ?_
        | refine T_goto (tgt := 95) (pc := 129) k_M_lay_129 rfl ?_
        | refine T_goto (tgt := 179) (pc := 132) k_M_lay_132 rfl ?_
        | refine T_iload_n (pc1 := 136) (pc := 135) k_M_lay_135 rfl rfl ?_
        | refine T_iconst (v := (nI 1)) (pc1 := 137) (pc := 136) k_M_lay_136 rfl (by decide) ?_
        | (with_reducible refine T_icmp_neN (tgt := 171) (pc1 := 140) (pc := 137) k_M_lay_137 (by decide) (by decide) (by omega) (by omega) (fun hc => ?_) (fun hc => ?_) <;> first | (exfalso; omega) | skip)
        | refine T_icmp_ne_t (tgt := 171) (pc := 137) k_M_lay_137 rfl (by decide) ?_
        | refine T_icmp_ne_f (tgt := 171) (pc1 := 140) (pc := 137) k_M_lay_137 rfl rfl (by decide) ?_
        | refine T_icmp_ne (tgt := 171) (pc1 := 140) (pc := 137) k_M_lay_137 rfl rfl (fun hc => ?_) (fun hc => ?_)
        | refine T_aload_n (pc1 := 141) (pc := 140) k_M_lay_140 rfl rfl ?_
        | refine T_aload_nN (pc1 := 141) (pc := 140) k_M_lay_140 rfl rfl ?_
        | refine T_getR (pc1 := 144) (pc := 141) k_M_lay_141 rfl f_M_76 rfl (by first | exact ga G (by decide) rfl | assumption) (by first | exact gr G (by decide) rfl | assumption) ?_
        | refine T_iload (pc1 := 146) (pc := 144) k_M_lay_144 rfl rfl ?_
        | refine T_aload_n (pc1 := 147) (pc := 146) k_M_lay_146 rfl rfl ?_
        | refine T_aload_nN (pc1 := 147) (pc := 146) k_M_lay_146 rfl rfl ?_
        | refine T_iload_n (pc1 := 148) (pc := 147) k_M_lay_147 rfl rfl ?_
        | refine T_iconst (v := (nI 0)) (pc1 := 149) (pc := 148) k_M_lay_148 rfl (by decide) ?_
        | (refine T_cV (As := [_, _]) (d1 := 1) (pc1 := 152) (pc := 149) k_M_lay_149 rfl (by decide) (Nat.le_of_ble_eq_true rfl) rfl o_M_bitIs l_M_124 rfl (by first | exact ga G (by decide) rfl | assumption) rfl (c_M_bitN G (by assumption) (by omega) (by omega) (by first | assumption | rfl) ?_) <;> try dsimp only [psh])
        | refine T_iastN (pc1 := 153) (pc := 152) k_M_lay_152 rfl (by first | exact ga G (by decide) rfl | assumption) (by omega) (by omega) ?_
        | refine T_aload_n (pc1 := 154) (pc := 153) k_M_lay_153 rfl rfl ?_
        | refine T_aload_nN (pc1 := 154) (pc := 153) k_M_lay_153 rfl rfl ?_
        | refine T_getR (pc1 := 157) (pc := 154) k_M_lay_154 rfl f_M_76 rfl (by first | exact ga G (by decide) rfl | assumption) (by first | exact gr G (by decide) rfl | assumption) ?_
        | refine T_iload (pc1 := 159) (pc := 157) k_M_lay_157 rfl rfl ?_
        | refine T_iconst (v := (nI 1)) (pc1 := 160) (pc := 159) k_M_lay_159 rfl (by decide) ?_
        | with_reducible refine T_iaddN (pc1 := 161) (pc := 160) k_M_lay_160 (by decide) ?_
        | refine T_iadd (pc1 := 161) (pc := 160) k_M_lay_160 rfl ?_
        | refine T_aload_n (pc1 := 162) (pc := 161) k_M_lay_161 rfl rfl ?_
        | refine T_aload_nN (pc1 := 162) (pc := 161) k_M_lay_161 rfl rfl ?_
        | refine T_iload_n (pc1 := 163) (pc := 162) k_M_lay_162 rfl rfl ?_
        | refine T_iconst (v := (nI 3)) (pc1 := 164) (pc := 163) k_M_lay_163 rfl (by decide) ?_
        | (refine T_cV (As := [_, _]) (d1 := 1) (pc1 := 167) (pc := 164) k_M_lay_164 rfl (by decide) (Nat.le_of_ble_eq_true rfl) rfl o_M_bitIs l_M_124 rfl (by first | exact ga G (by decide) rfl | assumption) rfl (c_M_bitN (N := N) G (by rw [pI_rw (by decide)]; exact hN) (by omega) (by omega) rfl ?_) <;> try dsimp only [psh])
        | refine T_iastN (pc1 := 168) (pc := 167) k_M_lay_167 rfl (by first | exact ga G (by decide) rfl | assumption) (by omega) (by omega) ?_
        | refine T_goto (tgt := 179) (pc := 168) k_M_lay_168 rfl ?_
        | refine T_aload_n (pc1 := 172) (pc := 171) k_M_lay_171 rfl rfl ?_
        | refine T_aload_nN (pc1 := 172) (pc := 171) k_M_lay_171 rfl rfl ?_
        | refine T_getR (pc1 := 175) (pc := 172) k_M_lay_172 rfl f_M_76 rfl (by first | exact ga G (by decide) rfl | assumption) (by first | exact gr G (by decide) rfl | assumption) ?_
        | refine T_iload (pc1 := 177) (pc := 175) k_M_lay_175 rfl rfl ?_
        | refine T_iload_n (pc1 := 178) (pc := 177) k_M_lay_177 rfl rfl ?_
        | refine T_iastN (pc1 := 179) (pc := 178) k_M_lay_178 rfl (by first | exact ga G (by decide) rfl | assumption) (by omega) (by omega) ?_
        | refine T_aload_n (pc1 := 180) (pc := 179) k_M_lay_179 rfl rfl ?_
        | refine T_aload_nN (pc1 := 180) (pc := 179) k_M_lay_179 rfl rfl ?_
        | refine T_iload_n (pc1 := 181) (pc := 180) k_M_lay_180 rfl rfl ?_
        | refine T_iload_n (pc1 := 182) (pc := 181) k_M_lay_181 rfl rfl ?_
        | (refine T_cV (As := [_, _]) (d1 := 1) (pc1 := 185) (pc := 182) k_M_lay_182 rfl (by decide) (Nat.le_of_ble_eq_true rfl) rfl o_M_holds l_M_303 rfl (by first | exact ga G (by decide) rfl | assumption) rfl (c_M_holds (Th := Th) G (by rw [pI_rw (by decide), pI_rw (by decide)]; exact hTh) (by omega) ?_) <;> try dsimp only [psh])
        | refine T_retI (pc := 185) k_M_lay_185 rfl (by first | rfl | decide | assumption) ?_)
      all_goals first | contradiction | exact kk _ _ (eqx_pI (eqx_pI (eqx_pI eqx_rf _ (by decide)) _ (by decide)) _ (by decide)) (by rw [pI_self, pI_rw (by decide), pI_rw (by decide), hTh, k2]) (by rw [pI_rw (by decide), pI_self, upI hHe, k3]) k1.symm
    · obtain ⟨b, hb, rfl⟩ := rg_of hk (by omega)
      have eb : (nI b).toNatClampNeg = b := nI_clamp (by omega)
      rcases oks b hb with ⟨h1, h2⟩ | ⟨h1, z, hz, h2⟩
      · obtain ⟨k1, k2, k3⟩ := lay_no (N := N) (So := So) (Si := Si) (Pl := Pl) (Th := Th) (He := He) hok ⟨rfl, by rw [eb]; exact h1⟩
        repeat' (first
          | refine T_iload_n (pc1 := 1) (pc := 0) k_M_lay_0 rfl rfl ?_
          | (with_reducible refine T_if_eqN (tgt := 34) (pc1 := 4) (pc := 1) k_M_lay_1 (by decide) (by decide) (by omega) (fun hc => ?_) (fun hc => ?_) <;> first | (exfalso; omega) | skip)
          | refine T_if_eq_t (tgt := 34) (pc := 1) k_M_lay_1 rfl (by decide) ?_
          | refine T_if_eq_f (tgt := 34) (pc1 := 4) (pc := 1) k_M_lay_1 rfl rfl (by decide) ?_
          | refine T_if_eq (tgt := 34) (pc1 := 4) (pc := 1) k_M_lay_1 rfl rfl (fun hc => ?_) (fun hc => ?_)
          | refine T_iload_n (pc1 := 5) (pc := 4) k_M_lay_4 rfl rfl ?_
          | refine T_iconst (v := (nI 1)) (pc1 := 6) (pc := 5) k_M_lay_5 rfl (by decide) ?_
          | (with_reducible refine T_icmp_neN (tgt := 17) (pc1 := 9) (pc := 6) k_M_lay_6 (by decide) (by decide) (by omega) (by omega) (fun hc => ?_) (fun hc => ?_) <;> first | (exfalso; omega) | skip)
          | refine T_icmp_ne_t (tgt := 17) (pc := 6) k_M_lay_6 rfl (by decide) ?_
          | refine T_icmp_ne_f (tgt := 17) (pc1 := 9) (pc := 6) k_M_lay_6 rfl rfl (by decide) ?_
          | refine T_icmp_ne (tgt := 17) (pc1 := 9) (pc := 6) k_M_lay_6 rfl rfl (fun hc => ?_) (fun hc => ?_)
          | refine T_aload_n (pc1 := 10) (pc := 9) k_M_lay_9 rfl rfl ?_
          | refine T_aload_nN (pc1 := 10) (pc := 9) k_M_lay_9 rfl rfl ?_
          | refine T_iload_n (pc1 := 11) (pc := 10) k_M_lay_10 rfl rfl ?_
          | (refine T_cV (As := [_]) (d1 := 2) (pc1 := 14) (pc := 11) k_M_lay_11 rfl (by decide) (Nat.le_of_ble_eq_true rfl) rfl o_M_isBit l_M_140 rfl (by first | exact ga G (by decide) rfl | assumption) rfl (c_M_isBit G hN hn h14 (fun hw => ?_) (fun hw => ?_)) <;> try dsimp only [psh])
          | (with_reducible refine T_if_neN (tgt := 34) (pc1 := 17) (pc := 14) k_M_lay_14 (by decide) (by decide) (by omega) (fun hc => ?_) (fun hc => ?_) <;> first | (exfalso; omega) | skip)
          | refine T_if_ne_t (tgt := 34) (pc := 14) k_M_lay_14 rfl (by decide) ?_
          | refine T_if_ne_f (tgt := 34) (pc1 := 17) (pc := 14) k_M_lay_14 rfl rfl (by decide) ?_
          | refine T_if_ne (tgt := 34) (pc1 := 17) (pc := 14) k_M_lay_14 rfl rfl (fun hc => ?_) (fun hc => ?_)
          | refine T_iload_n (pc1 := 18) (pc := 17) k_M_lay_17 rfl rfl ?_
          | refine T_iconst (v := (nI 2)) (pc1 := 19) (pc := 18) k_M_lay_18 rfl (by decide) ?_
          | (with_reducible refine T_icmp_neN (tgt := 29) (pc1 := 22) (pc := 19) k_M_lay_19 (by decide) (by decide) (by omega) (by omega) (fun hc => ?_) (fun hc => ?_) <;> first | (exfalso; omega) | skip)
          | refine T_icmp_ne_t (tgt := 29) (pc := 19) k_M_lay_19 rfl (by decide) ?_
          | refine T_icmp_ne_f (tgt := 29) (pc1 := 22) (pc := 19) k_M_lay_19 rfl rfl (by decide) ?_
          | refine T_icmp_ne (tgt := 29) (pc1 := 22) (pc := 19) k_M_lay_19 rfl rfl (fun hc => ?_) (fun hc => ?_)
          | refine T_iload_n (pc1 := 23) (pc := 22) k_M_lay_22 rfl rfl ?_
          | (refine T_cS (As := [_]) (d1 := 2) (pc1 := 26) (pc := 23) k_M_lay_23 rfl (by decide) (Nat.le_of_ble_eq_true rfl) rfl o_M_isSheet l_M_193 rfl (c_M_isSheet (fun hw => ?_) (fun hw => ?_)) <;> try dsimp only [psh])
          | (with_reducible refine T_if_neN (tgt := 34) (pc1 := 29) (pc := 26) k_M_lay_26 (by decide) (by decide) (by omega) (fun hc => ?_) (fun hc => ?_) <;> first | (exfalso; omega) | skip)
          | refine T_if_ne_t (tgt := 34) (pc := 26) k_M_lay_26 rfl (by decide) ?_
          | refine T_if_ne_f (tgt := 34) (pc1 := 29) (pc := 26) k_M_lay_26 rfl rfl (by decide) ?_
          | refine T_if_ne (tgt := 34) (pc1 := 29) (pc := 26) k_M_lay_26 rfl rfl (fun hc => ?_) (fun hc => ?_)
          | refine T_iload_n (pc1 := 30) (pc := 29) k_M_lay_29 rfl rfl ?_
          | refine T_iconst (v := (nI 3)) (pc1 := 31) (pc := 30) k_M_lay_30 rfl (by decide) ?_
          | (with_reducible refine T_icmp_neN (tgt := 38) (pc1 := 34) (pc := 31) k_M_lay_31 (by decide) (by decide) (by omega) (by omega) (fun hc => ?_) (fun hc => ?_) <;> first | (exfalso; omega) | skip)
          | refine T_icmp_ne_t (tgt := 38) (pc := 31) k_M_lay_31 rfl (by decide) ?_
          | refine T_icmp_ne_f (tgt := 38) (pc1 := 34) (pc := 31) k_M_lay_31 rfl rfl (by decide) ?_
          | refine T_icmp_ne (tgt := 38) (pc1 := 34) (pc := 31) k_M_lay_31 rfl rfl (fun hc => ?_) (fun hc => ?_)
          | refine T_iconst (v := (nI 1)) (pc1 := 35) (pc := 34) k_M_lay_34 rfl (by decide) ?_
          | refine T_goto (tgt := 39) (pc := 35) k_M_lay_35 rfl ?_
          | refine T_iconst (v := (nI 0)) (pc1 := 39) (pc := 38) k_M_lay_38 rfl (by decide) ?_
          | refine T_istore (pc1 := 41) (pc := 39) k_M_lay_39 rfl (Nat.le_of_ble_eq_true rfl) ?_
          | refine T_iload_n (pc1 := 42) (pc := 41) k_M_lay_41 rfl rfl ?_
          | (refine T_cS (As := [_]) (d1 := 2) (pc1 := 45) (pc := 42) k_M_lay_42 rfl (by decide) (Nat.le_of_ble_eq_true rfl) rfl o_M_isSlot l_M_300 rfl (c_M_isSlot (fun hw => ?_) (fun hw => ?_)) <;> try dsimp only [psh])
          | (with_reducible refine T_if_eqN (tgt := 53) (pc1 := 48) (pc := 45) k_M_lay_45 (by decide) (by decide) (by omega) (fun hc => ?_) (fun hc => ?_) <;> first | (exfalso; omega) | skip)
          | refine T_if_eq_t (tgt := 53) (pc := 45) k_M_lay_45 rfl (by decide) ?_
          | refine T_if_eq_f (tgt := 53) (pc1 := 48) (pc := 45) k_M_lay_45 rfl rfl (by decide) ?_
          | refine T_if_eq (tgt := 53) (pc1 := 48) (pc := 45) k_M_lay_45 rfl rfl (fun hc => ?_) (fun hc => ?_)
          | refine T_iload (pc1 := 50) (pc := 48) k_M_lay_48 rfl rfl ?_
          | (with_reducible refine T_if_neN (tgt := 56) (pc1 := 53) (pc := 50) k_M_lay_50 (by decide) (by decide) (by omega) (fun hc => ?_) (fun hc => ?_) <;> first | (exfalso; omega) | skip)
          | refine T_if_ne_t (tgt := 56) (pc := 50) k_M_lay_50 rfl (by decide) ?_
          | refine T_if_ne_f (tgt := 56) (pc1 := 53) (pc := 50) k_M_lay_50 rfl rfl (by decide) ?_
          | refine T_if_ne (tgt := 56) (pc1 := 53) (pc := 50) k_M_lay_50 rfl rfl (fun hc => ?_) (fun hc => ?_)
          | refine T_ldc (v := (-1000000001)) (pc1 := 55) (pc := 53) k_M_lay_53 rfl c_M_111 ?_
          | refine T_retI (pc := 55) k_M_lay_55 rfl (by first | rfl | decide | assumption) ?_
          | refine T_bipush (v := (nI 25)) (pc1 := 58) (pc := 56) k_M_lay_56 rfl (by decide) ?_
          | refine T_iload_n (pc1 := 59) (pc := 58) k_M_lay_58 rfl rfl ?_
          | with_reducible refine T_imulN (pc1 := 60) (pc := 59) k_M_lay_59 (by decide) ?_
          | refine T_imul (pc1 := 60) (pc := 59) k_M_lay_59 rfl ?_
          | refine T_istore (pc1 := 62) (pc := 60) k_M_lay_60 rfl (Nat.le_of_ble_eq_true rfl) ?_
          | refine T_iload_n (pc1 := 63) (pc := 62) k_M_lay_62 rfl rfl ?_
          | refine T_iconst (v := (nI 2)) (pc1 := 64) (pc := 63) k_M_lay_63 rfl (by decide) ?_
          | (with_reducible refine T_icmp_neN (tgt := 135) (pc1 := 67) (pc := 64) k_M_lay_64 (by decide) (by decide) (by omega) (by omega) (fun hc => ?_) (fun hc => ?_) <;> first | (exfalso; omega) | skip)
          | refine T_icmp_ne_t (tgt := 135) (pc := 64) k_M_lay_64 rfl (by decide) ?_
          | refine T_icmp_ne_f (tgt := 135) (pc1 := 67) (pc := 64) k_M_lay_64 rfl rfl (by decide) ?_
          | refine T_icmp_ne (tgt := 135) (pc1 := 67) (pc := 64) k_M_lay_64 rfl rfl (fun hc => ?_) (fun hc => ?_)
          | refine T_aload_n (pc1 := 68) (pc := 67) k_M_lay_67 rfl rfl ?_
          | refine T_aload_nN (pc1 := 68) (pc := 67) k_M_lay_67 rfl rfl ?_
          | refine T_getR (pc1 := 71) (pc := 68) k_M_lay_68 rfl f_M_61 rfl (by first | exact ga G (by decide) rfl | assumption) (by first | exact gr G (by decide) rfl | assumption) ?_
          | refine T_iload_n (pc1 := 72) (pc := 71) k_M_lay_71 rfl rfl ?_
          | refine T_ialdN (pc1 := 73) (pc := 72) k_M_lay_72 rfl (by first | exact ga G (by decide) rfl | assumption) (by omega) (by omega) (by first | assumption | (simp (disch := omega) only [pI_eq, pI_row, pI_col, va_up_self, va_up_ne, ne_eq, not_false_eq_true, hSo, h1] <;> rfl) | rfl) ?_
          | refine T_iald (pc1 := 73) (pc := 72) k_M_lay_72 rfl (by first | exact ga G (by decide) rfl | assumption) (by assumption) ?_
          | (with_reducible refine T_if_geN (tgt := 79) (pc1 := 76) (pc := 73) k_M_lay_73 (by decide) (by decide) (by omega) ?_ <;> first | (exfalso; omega) | skip)
          | refine T_if_ge_t (tgt := 79) (pc := 73) k_M_lay_73 rfl (by decide) ?_
          | refine T_if_ge_f (tgt := 79) (pc1 := 76) (pc := 73) k_M_lay_73 rfl rfl (by decide) ?_
          | refine T_if_ge (tgt := 79) (pc1 := 76) (pc := 73) k_M_lay_73 rfl rfl (fun hc => ?_) (fun hc => ?_)
          | refine T_ldc (v := (-1000000011)) (pc1 := 78) (pc := 76) k_M_lay_76 rfl c_M_196 ?_
          | refine T_retI (pc := 78) k_M_lay_78 rfl (by first | rfl | decide | assumption) ?_)
        all_goals first | contradiction | exact kk I _ eqx_rf (by rw [k2]; exact hTh) (by rw [k3]; exact hHe) k1.symm
      · have hne : ¬ So b = -1 := by rcases h1 with h | h <;> rw [h] <;> decide
        obtain ⟨k1, k2, k3⟩ := lay_ok (N := N) (So := So) (Si := Si) (Pl := Pl) (Th := Th) (He := He) hs5 hok (fun q => hne (by rw [eb] at q; exact q.2))
        rw [layV, if_pos rfl, eb] at k3
        have loop : ∀ q i (J : IM), i + q = 24 → eqx [118, 119] I J → J 118 = Th → J 119 = va_cpy Pl (va_up He (25 * s) (Si b)) (24 * b) (25 * s + 1) i → Rl 3 M_M_lay 95 [some (.ref 101), some (.int (nI s)), some (.int (nI 2)), some (.int (nI b)), some (.int (nI 1)), some (.int (nI (25 * s))), some (.int (nI i))] [] g J K := by
          intro q
          induction q with
          | zero =>
            intro i J hi hJ hT hH
            have hi : i = 24 := by omega
            subst hi
            repeat' (first
              | refine T_iload_n (pc1 := 1) (pc := 0) k_M_lay_0 rfl rfl ?_
              | (with_reducible refine T_if_eqN (tgt := 34) (pc1 := 4) (pc := 1) k_M_lay_1 (by decide) (by decide) (by omega) (fun hc => ?_) (fun hc => ?_) <;> first | (exfalso; omega) | skip)
              | refine T_if_eq_t (tgt := 34) (pc := 1) k_M_lay_1 rfl (by decide) ?_
              | refine T_if_eq_f (tgt := 34) (pc1 := 4) (pc := 1) k_M_lay_1 rfl rfl (by decide) ?_
              | refine T_if_eq (tgt := 34) (pc1 := 4) (pc := 1) k_M_lay_1 rfl rfl (fun hc => ?_) (fun hc => ?_)
              | refine T_iload_n (pc1 := 5) (pc := 4) k_M_lay_4 rfl rfl ?_
              | refine T_iconst (v := (nI 1)) (pc1 := 6) (pc := 5) k_M_lay_5 rfl (by decide) ?_
              | (with_reducible refine T_icmp_neN (tgt := 17) (pc1 := 9) (pc := 6) k_M_lay_6 (by decide) (by decide) (by omega) (by omega) (fun hc => ?_) (fun hc => ?_) <;> first | (exfalso; omega) | skip)
              | refine T_icmp_ne_t (tgt := 17) (pc := 6) k_M_lay_6 rfl (by decide) ?_
              | refine T_icmp_ne_f (tgt := 17) (pc1 := 9) (pc := 6) k_M_lay_6 rfl rfl (by decide) ?_
              | refine T_icmp_ne (tgt := 17) (pc1 := 9) (pc := 6) k_M_lay_6 rfl rfl (fun hc => ?_) (fun hc => ?_)
              | refine T_aload_n (pc1 := 10) (pc := 9) k_M_lay_9 rfl rfl ?_
              | refine T_aload_nN (pc1 := 10) (pc := 9) k_M_lay_9 rfl rfl ?_
              | refine T_iload_n (pc1 := 11) (pc := 10) k_M_lay_10 rfl rfl ?_
              | (refine T_cV (As := [_]) (d1 := 2) (pc1 := 14) (pc := 11) k_M_lay_11 rfl (by decide) (Nat.le_of_ble_eq_true rfl) rfl o_M_isBit l_M_140 rfl (by first | exact ga G (by decide) rfl | assumption) rfl (c_M_isBit G hN hn h14 (fun hw => ?_) (fun hw => ?_)) <;> try dsimp only [psh])
              | (with_reducible refine T_if_neN (tgt := 34) (pc1 := 17) (pc := 14) k_M_lay_14 (by decide) (by decide) (by omega) (fun hc => ?_) (fun hc => ?_) <;> first | (exfalso; omega) | skip)
              | refine T_if_ne_t (tgt := 34) (pc := 14) k_M_lay_14 rfl (by decide) ?_
              | refine T_if_ne_f (tgt := 34) (pc1 := 17) (pc := 14) k_M_lay_14 rfl rfl (by decide) ?_
              | refine T_if_ne (tgt := 34) (pc1 := 17) (pc := 14) k_M_lay_14 rfl rfl (fun hc => ?_) (fun hc => ?_)
              | refine T_iload_n (pc1 := 18) (pc := 17) k_M_lay_17 rfl rfl ?_
              | refine T_iconst (v := (nI 2)) (pc1 := 19) (pc := 18) k_M_lay_18 rfl (by decide) ?_
              | (with_reducible refine T_icmp_neN (tgt := 29) (pc1 := 22) (pc := 19) k_M_lay_19 (by decide) (by decide) (by omega) (by omega) (fun hc => ?_) (fun hc => ?_) <;> first | (exfalso; omega) | skip)
              | refine T_icmp_ne_t (tgt := 29) (pc := 19) k_M_lay_19 rfl (by decide) ?_
              | refine T_icmp_ne_f (tgt := 29) (pc1 := 22) (pc := 19) k_M_lay_19 rfl rfl (by decide) ?_
              | refine T_icmp_ne (tgt := 29) (pc1 := 22) (pc := 19) k_M_lay_19 rfl rfl (fun hc => ?_) (fun hc => ?_)
              | refine T_iload_n (pc1 := 23) (pc := 22) k_M_lay_22 rfl rfl ?_
              | (refine T_cS (As := [_]) (d1 := 2) (pc1 := 26) (pc := 23) k_M_lay_23 rfl (by decide) (Nat.le_of_ble_eq_true rfl) rfl o_M_isSheet l_M_193 rfl (c_M_isSheet (fun hw => ?_) (fun hw => ?_)) <;> try dsimp only [psh])
              | (with_reducible refine T_if_neN (tgt := 34) (pc1 := 29) (pc := 26) k_M_lay_26 (by decide) (by decide) (by omega) (fun hc => ?_) (fun hc => ?_) <;> first | (exfalso; omega) | skip)
              | refine T_if_ne_t (tgt := 34) (pc := 26) k_M_lay_26 rfl (by decide) ?_
              | refine T_if_ne_f (tgt := 34) (pc1 := 29) (pc := 26) k_M_lay_26 rfl rfl (by decide) ?_
              | refine T_if_ne (tgt := 34) (pc1 := 29) (pc := 26) k_M_lay_26 rfl rfl (fun hc => ?_) (fun hc => ?_)
              | refine T_iload_n (pc1 := 30) (pc := 29) k_M_lay_29 rfl rfl ?_
              | refine T_iconst (v := (nI 3)) (pc1 := 31) (pc := 30) k_M_lay_30 rfl (by decide) ?_
              | (with_reducible refine T_icmp_neN (tgt := 38) (pc1 := 34) (pc := 31) k_M_lay_31 (by decide) (by decide) (by omega) (by omega) (fun hc => ?_) (fun hc => ?_) <;> first | (exfalso; omega) | skip)
              | refine T_icmp_ne_t (tgt := 38) (pc := 31) k_M_lay_31 rfl (by decide) ?_
              | refine T_icmp_ne_f (tgt := 38) (pc1 := 34) (pc := 31) k_M_lay_31 rfl rfl (by decide) ?_
              | refine T_icmp_ne (tgt := 38) (pc1 := 34) (pc := 31) k_M_lay_31 rfl rfl (fun hc => ?_) (fun hc => ?_)
              | refine T_iconst (v := (nI 1)) (pc1 := 35) (pc := 34) k_M_lay_34 rfl (by decide) ?_
              | refine T_goto (tgt := 39) (pc := 35) k_M_lay_35 rfl ?_
              | refine T_iconst (v := (nI 0)) (pc1 := 39) (pc := 38) k_M_lay_38 rfl (by decide) ?_
              | refine T_istore (pc1 := 41) (pc := 39) k_M_lay_39 rfl (Nat.le_of_ble_eq_true rfl) ?_
              | refine T_iload_n (pc1 := 42) (pc := 41) k_M_lay_41 rfl rfl ?_
              | (refine T_cS (As := [_]) (d1 := 2) (pc1 := 45) (pc := 42) k_M_lay_42 rfl (by decide) (Nat.le_of_ble_eq_true rfl) rfl o_M_isSlot l_M_300 rfl (c_M_isSlot (fun hw => ?_) (fun hw => ?_)) <;> try dsimp only [psh])
              | (with_reducible refine T_if_eqN (tgt := 53) (pc1 := 48) (pc := 45) k_M_lay_45 (by decide) (by decide) (by omega) (fun hc => ?_) (fun hc => ?_) <;> first | (exfalso; omega) | skip)
              | refine T_if_eq_t (tgt := 53) (pc := 45) k_M_lay_45 rfl (by decide) ?_
              | refine T_if_eq_f (tgt := 53) (pc1 := 48) (pc := 45) k_M_lay_45 rfl rfl (by decide) ?_
              | refine T_if_eq (tgt := 53) (pc1 := 48) (pc := 45) k_M_lay_45 rfl rfl (fun hc => ?_) (fun hc => ?_)
              | refine T_iload (pc1 := 50) (pc := 48) k_M_lay_48 rfl rfl ?_
              | (with_reducible refine T_if_neN (tgt := 56) (pc1 := 53) (pc := 50) k_M_lay_50 (by decide) (by decide) (by omega) (fun hc => ?_) (fun hc => ?_) <;> first | (exfalso; omega) | skip)
              | refine T_if_ne_t (tgt := 56) (pc := 50) k_M_lay_50 rfl (by decide) ?_
              | refine T_if_ne_f (tgt := 56) (pc1 := 53) (pc := 50) k_M_lay_50 rfl rfl (by decide) ?_
              | refine T_if_ne (tgt := 56) (pc1 := 53) (pc := 50) k_M_lay_50 rfl rfl (fun hc => ?_) (fun hc => ?_)
              | refine T_ldc (v := (-1000000001)) (pc1 := 55) (pc := 53) k_M_lay_53 rfl c_M_111 ?_
              | refine T_retI (pc := 55) k_M_lay_55 rfl (by first | rfl | decide | assumption) ?_
              | refine T_bipush (v := (nI 25)) (pc1 := 58) (pc := 56) k_M_lay_56 rfl (by decide) ?_
              | refine T_iload_n (pc1 := 59) (pc := 58) k_M_lay_58 rfl rfl ?_
              | with_reducible refine T_imulN (pc1 := 60) (pc := 59) k_M_lay_59 (by decide) ?_
              | refine T_imul (pc1 := 60) (pc := 59) k_M_lay_59 rfl ?_
              | refine T_istore (pc1 := 62) (pc := 60) k_M_lay_60 rfl (Nat.le_of_ble_eq_true rfl) ?_
              | refine T_iload_n (pc1 := 63) (pc := 62) k_M_lay_62 rfl rfl ?_
              | refine T_iconst (v := (nI 2)) (pc1 := 64) (pc := 63) k_M_lay_63 rfl (by decide) ?_
              | (with_reducible refine T_icmp_neN (tgt := 135) (pc1 := 67) (pc := 64) k_M_lay_64 (by decide) (by decide) (by omega) (by omega) (fun hc => ?_) (fun hc => ?_) <;> first | (exfalso; omega) | skip)
              | refine T_icmp_ne_t (tgt := 135) (pc := 64) k_M_lay_64 rfl (by decide) ?_
              | refine T_icmp_ne_f (tgt := 135) (pc1 := 67) (pc := 64) k_M_lay_64 rfl rfl (by decide) ?_
              | refine T_icmp_ne (tgt := 135) (pc1 := 67) (pc := 64) k_M_lay_64 rfl rfl (fun hc => ?_) (fun hc => ?_)
              | refine T_aload_n (pc1 := 68) (pc := 67) k_M_lay_67 rfl rfl ?_
              | refine T_aload_nN (pc1 := 68) (pc := 67) k_M_lay_67 rfl rfl ?_
              | refine T_getR (pc1 := 71) (pc := 68) k_M_lay_68 rfl f_M_61 rfl (by first | exact ga G (by decide) rfl | assumption) (by first | exact gr G (by decide) rfl | assumption) ?_
              | refine T_iload_n (pc1 := 72) (pc := 71) k_M_lay_71 rfl rfl ?_
              | refine T_ialdN (pc1 := 73) (pc := 72) k_M_lay_72 rfl (by first | exact ga G (by decide) rfl | assumption) (by omega) (by omega) (by first | assumption | (simp (disch := omega) only [pI_eq, pI_row, pI_col, va_up_self, va_up_ne, ne_eq, not_false_eq_true, hSo, h1] <;> rfl) | rfl) ?_
              | refine T_iald (pc1 := 73) (pc := 72) k_M_lay_72 rfl (by first | exact ga G (by decide) rfl | assumption) (by assumption) ?_
              | (with_reducible refine T_if_geN (tgt := 79) (pc1 := 76) (pc := 73) k_M_lay_73 (by decide) (by decide) (by omega) ?_ <;> first | (exfalso; omega) | skip)
              | refine T_if_ge_t (tgt := 79) (pc := 73) k_M_lay_73 rfl (by decide) ?_
              | refine T_if_ge_f (tgt := 79) (pc1 := 76) (pc := 73) k_M_lay_73 rfl rfl (by decide) ?_
              | refine T_if_ge (tgt := 79) (pc1 := 76) (pc := 73) k_M_lay_73 rfl rfl (fun hc => ?_) (fun hc => ?_)
              | refine T_ldc (v := (-1000000011)) (pc1 := 78) (pc := 76) k_M_lay_76 rfl c_M_196 ?_
              | refine T_retI (pc := 78) k_M_lay_78 rfl (by first | rfl | decide | assumption) ?_
              | refine T_aload_n (pc1 := 80) (pc := 79) k_M_lay_79 rfl rfl ?_
              | refine T_aload_nN (pc1 := 80) (pc := 79) k_M_lay_79 rfl rfl ?_
              | refine T_getR (pc1 := 83) (pc := 80) k_M_lay_80 rfl f_M_76 rfl (by first | exact ga G (by decide) rfl | assumption) (by first | exact gr G (by decide) rfl | assumption) ?_
              | refine T_iload (pc1 := 85) (pc := 83) k_M_lay_83 rfl rfl ?_
              | refine T_aload_n (pc1 := 86) (pc := 85) k_M_lay_85 rfl rfl ?_
              | refine T_aload_nN (pc1 := 86) (pc := 85) k_M_lay_85 rfl rfl ?_
              | refine T_getR (pc1 := 89) (pc := 86) k_M_lay_86 rfl f_M_64 rfl (by first | exact ga G (by decide) rfl | assumption) (by first | exact gr G (by decide) rfl | assumption) ?_
              | refine T_iload_n (pc1 := 90) (pc := 89) k_M_lay_89 rfl rfl ?_
              | refine T_ialdN (pc1 := 91) (pc := 90) k_M_lay_90 rfl (by first | exact ga G (by decide) rfl | assumption) (by omega) (by omega) (by first | assumption | (simp (disch := omega) only [pI_eq, pI_row, pI_col, va_up_self, va_up_ne, ne_eq, not_false_eq_true, hSo, h1] <;> rfl) | rfl) ?_
              | refine T_iald (pc1 := 91) (pc := 90) k_M_lay_90 rfl (by first | exact ga G (by decide) rfl | assumption) (by assumption) ?_
              | refine T_iastN (pc1 := 92) (pc := 91) k_M_lay_91 rfl (by first | exact ga G (by decide) rfl | assumption) (by omega) (by omega) ?_
              | refine T_iconst (v := (nI 0)) (pc1 := 93) (pc := 92) k_M_lay_92 rfl (by decide) ?_
              | refine T_istore (pc1 := 95) (pc := 93) k_M_lay_93 rfl (Nat.le_of_ble_eq_true rfl) ?_
              | refine T_iload (pc1 := 97) (pc := 95) k_M_lay_95 rfl rfl ?_
              | refine T_bipush (v := (nI 24)) (pc1 := 99) (pc := 97) k_M_lay_97 rfl (by decide) ?_
              | (with_reducible refine T_icmp_geN (tgt := 132) (pc1 := 102) (pc := 99) k_M_lay_99 (by decide) (by decide) (by omega) (by omega) (fun hc => ?_) (fun hc => ?_) <;> first | (exfalso; omega) | skip)
              | refine T_icmp_ge_t (tgt := 132) (pc := 99) k_M_lay_99 rfl (by decide) ?_
              | refine T_icmp_ge_f (tgt := 132) (pc1 := 102) (pc := 99) k_M_lay_99 rfl rfl (by decide) ?_
              | refine T_icmp_ge (tgt := 132) (pc1 := 102) (pc := 99) k_M_lay_99 rfl rfl (fun hc => ?_) (fun hc => ?_)
              | refine T_aload_n (pc1 := 103) (pc := 102) k_M_lay_102 rfl rfl ?_
              | refine T_aload_nN (pc1 := 103) (pc := 102) k_M_lay_102 rfl rfl ?_
              | refine T_getR (pc1 := 106) (pc := 103) k_M_lay_103 rfl f_M_76 rfl (by first | exact ga G (by decide) rfl | assumption) (by first | exact gr G (by decide) rfl | assumption) ?_
              | refine T_iload (pc1 := 108) (pc := 106) k_M_lay_106 rfl rfl ?_
              | refine T_iconst (v := (nI 1)) (pc1 := 109) (pc := 108) k_M_lay_108 rfl (by decide) ?_
              | with_reducible refine T_iaddN (pc1 := 110) (pc := 109) k_M_lay_109 (by decide) ?_
              | refine T_iadd (pc1 := 110) (pc := 109) k_M_lay_109 rfl ?_
              | refine T_iload (pc1 := 112) (pc := 110) k_M_lay_110 rfl rfl ?_
              | with_reducible refine T_iaddN (pc1 := 113) (pc := 112) k_M_lay_112 (by decide) ?_
              | refine T_iadd (pc1 := 113) (pc := 112) k_M_lay_112 rfl ?_
              | refine T_aload_n (pc1 := 114) (pc := 113) k_M_lay_113 rfl rfl ?_
              | refine T_aload_nN (pc1 := 114) (pc := 113) k_M_lay_113 rfl rfl ?_
              | refine T_getR (pc1 := 117) (pc := 114) k_M_lay_114 rfl f_M_67 rfl (by first | exact ga G (by decide) rfl | assumption) (by first | exact gr G (by decide) rfl | assumption) ?_
              | refine T_bipush (v := (nI 24)) (pc1 := 119) (pc := 117) k_M_lay_117 rfl (by decide) ?_
              | refine T_iload_n (pc1 := 120) (pc := 119) k_M_lay_119 rfl rfl ?_
              | with_reducible refine T_imulN (pc1 := 121) (pc := 120) k_M_lay_120 (by decide) ?_
              | refine T_imul (pc1 := 121) (pc := 120) k_M_lay_120 rfl ?_
              | refine T_iload (pc1 := 123) (pc := 121) k_M_lay_121 rfl rfl ?_
              | with_reducible refine T_iaddN (pc1 := 124) (pc := 123) k_M_lay_123 (by decide) ?_
              | refine T_iadd (pc1 := 124) (pc := 123) k_M_lay_123 rfl ?_
              | refine T_ialdN (pc1 := 125) (pc := 124) k_M_lay_124 rfl (by first | exact ga G (by decide) rfl | assumption) (by omega) (by omega) (by first | assumption | (simp (disch := omega) only [pI_eq, pI_row, pI_col, va_up_self, va_up_ne, ne_eq, not_false_eq_true, hSo, h1] <;> rfl) | rfl) ?_
              | refine T_iald (pc1 := 125) (pc := 124) k_M_lay_124 rfl (by first | exact ga G (by decide) rfl | assumption) (by assumption) ?_
              | refine T_iastN (pc1 := 126) (pc := 125) k_M_lay_125 rfl (by first | exact ga G (by decide) rfl | assumption) (by omega) (by omega) ?_
              | refine T_iincN (b := 1) (pc1 := 129) (pc := 126) k_M_lay_126 rfl rfl (by decide) ?_
              | refine T_iinc (v := (nI 1)) (pc1 := 129) (pc := 126) k_M_lay_126 rfl rfl (by decide) ?_
              | refine T_goto (tgt := 95) (pc := 129) k_M_lay_129 rfl ?_
              | refine T_goto (tgt := 179) (pc := 132) k_M_lay_132 rfl ?_
              | refine T_iload_n (pc1 := 136) (pc := 135) k_M_lay_135 rfl rfl ?_
              | refine T_iconst (v := (nI 1)) (pc1 := 137) (pc := 136) k_M_lay_136 rfl (by decide) ?_
              | (with_reducible refine T_icmp_neN (tgt := 171) (pc1 := 140) (pc := 137) k_M_lay_137 (by decide) (by decide) (by omega) (by omega) (fun hc => ?_) (fun hc => ?_) <;> first | (exfalso; omega) | skip)
              | refine T_icmp_ne_t (tgt := 171) (pc := 137) k_M_lay_137 rfl (by decide) ?_
              | refine T_icmp_ne_f (tgt := 171) (pc1 := 140) (pc := 137) k_M_lay_137 rfl rfl (by decide) ?_
              | refine T_icmp_ne (tgt := 171) (pc1 := 140) (pc := 137) k_M_lay_137 rfl rfl (fun hc => ?_) (fun hc => ?_)
              | refine T_aload_n (pc1 := 141) (pc := 140) k_M_lay_140 rfl rfl ?_
              | refine T_aload_nN (pc1 := 141) (pc := 140) k_M_lay_140 rfl rfl ?_
              | refine T_getR (pc1 := 144) (pc := 141) k_M_lay_141 rfl f_M_76 rfl (by first | exact ga G (by decide) rfl | assumption) (by first | exact gr G (by decide) rfl | assumption) ?_
              | refine T_iload (pc1 := 146) (pc := 144) k_M_lay_144 rfl rfl ?_
              | refine T_aload_n (pc1 := 147) (pc := 146) k_M_lay_146 rfl rfl ?_
              | refine T_aload_nN (pc1 := 147) (pc := 146) k_M_lay_146 rfl rfl ?_
              | refine T_iload_n (pc1 := 148) (pc := 147) k_M_lay_147 rfl rfl ?_
              | refine T_iconst (v := (nI 0)) (pc1 := 149) (pc := 148) k_M_lay_148 rfl (by decide) ?_
              | (refine T_cV (As := [_, _]) (d1 := 1) (pc1 := 152) (pc := 149) k_M_lay_149 rfl (by decide) (Nat.le_of_ble_eq_true rfl) rfl o_M_bitIs l_M_124 rfl (by first | exact ga G (by decide) rfl | assumption) rfl (c_M_bitN G (by assumption) (by omega) (by omega) (by first | assumption | rfl) ?_) <;> try dsimp only [psh])
              | refine T_iastN (pc1 := 153) (pc := 152) k_M_lay_152 rfl (by first | exact ga G (by decide) rfl | assumption) (by omega) (by omega) ?_
              | refine T_aload_n (pc1 := 154) (pc := 153) k_M_lay_153 rfl rfl ?_
              | refine T_aload_nN (pc1 := 154) (pc := 153) k_M_lay_153 rfl rfl ?_
              | refine T_getR (pc1 := 157) (pc := 154) k_M_lay_154 rfl f_M_76 rfl (by first | exact ga G (by decide) rfl | assumption) (by first | exact gr G (by decide) rfl | assumption) ?_
              | refine T_iload (pc1 := 159) (pc := 157) k_M_lay_157 rfl rfl ?_
              | refine T_iconst (v := (nI 1)) (pc1 := 160) (pc := 159) k_M_lay_159 rfl (by decide) ?_
              | with_reducible refine T_iaddN (pc1 := 161) (pc := 160) k_M_lay_160 (by decide) ?_
              | refine T_iadd (pc1 := 161) (pc := 160) k_M_lay_160 rfl ?_
              | refine T_aload_n (pc1 := 162) (pc := 161) k_M_lay_161 rfl rfl ?_
              | refine T_aload_nN (pc1 := 162) (pc := 161) k_M_lay_161 rfl rfl ?_
              | refine T_iload_n (pc1 := 163) (pc := 162) k_M_lay_162 rfl rfl ?_
              | refine T_iconst (v := (nI 3)) (pc1 := 164) (pc := 163) k_M_lay_163 rfl (by decide) ?_
              | (refine T_cV (As := [_, _]) (d1 := 1) (pc1 := 167) (pc := 164) k_M_lay_164 rfl (by decide) (Nat.le_of_ble_eq_true rfl) rfl o_M_bitIs l_M_124 rfl (by first | exact ga G (by decide) rfl | assumption) rfl (c_M_bitN (N := N) G (by rw [pI_rw (by decide)]; exact hN) (by omega) (by omega) rfl ?_) <;> try dsimp only [psh])
              | refine T_iastN (pc1 := 168) (pc := 167) k_M_lay_167 rfl (by first | exact ga G (by decide) rfl | assumption) (by omega) (by omega) ?_
              | refine T_goto (tgt := 179) (pc := 168) k_M_lay_168 rfl ?_
              | refine T_aload_n (pc1 := 172) (pc := 171) k_M_lay_171 rfl rfl ?_
              | refine T_aload_nN (pc1 := 172) (pc := 171) k_M_lay_171 rfl rfl ?_
              | refine T_getR (pc1 := 175) (pc := 172) k_M_lay_172 rfl f_M_76 rfl (by first | exact ga G (by decide) rfl | assumption) (by first | exact gr G (by decide) rfl | assumption) ?_
              | refine T_iload (pc1 := 177) (pc := 175) k_M_lay_175 rfl rfl ?_
              | refine T_iload_n (pc1 := 178) (pc := 177) k_M_lay_177 rfl rfl ?_
              | refine T_iastN (pc1 := 179) (pc := 178) k_M_lay_178 rfl (by first | exact ga G (by decide) rfl | assumption) (by omega) (by omega) ?_
              | refine T_aload_n (pc1 := 180) (pc := 179) k_M_lay_179 rfl rfl ?_
              | refine T_aload_nN (pc1 := 180) (pc := 179) k_M_lay_179 rfl rfl ?_
              | refine T_iload_n (pc1 := 181) (pc := 180) k_M_lay_180 rfl rfl ?_
              | refine T_iload_n (pc1 := 182) (pc := 181) k_M_lay_181 rfl rfl ?_
              | (refine T_cV (As := [_, _]) (d1 := 1) (pc1 := 185) (pc := 182) k_M_lay_182 rfl (by decide) (Nat.le_of_ble_eq_true rfl) rfl o_M_holds l_M_303 rfl (by first | exact ga G (by decide) rfl | assumption) rfl (c_M_holds (Th := Th) G hT (by omega) ?_) <;> try dsimp only [psh])
              | refine T_retI (pc := 185) k_M_lay_185 rfl (by first | rfl | decide | assumption) ?_)
            exact kk _ _ (eqx_pI hJ _ (by decide)) (by rw [pI_self, hT, k2]) (by rw [pI_rw (by decide), hH, k3]) k1.symm
          | succ q ih =>
            intro i J hi hJ hT hH
            have e : J 116 (24 * b + i) = Pl (24 * b + i) := by rw [hJ 116 (by decide), hPl]
            refine T_iload (pc1 := 97) (pc := 95) k_M_lay_95 rfl rfl ?_
            repeat' (first
              | refine T_iload_n (pc1 := 1) (pc := 0) k_M_lay_0 rfl rfl ?_
              | (with_reducible refine T_if_eqN (tgt := 34) (pc1 := 4) (pc := 1) k_M_lay_1 (by decide) (by decide) (by omega) (fun hc => ?_) (fun hc => ?_) <;> first | (exfalso; omega) | skip)
              | refine T_if_eq_t (tgt := 34) (pc := 1) k_M_lay_1 rfl (by decide) ?_
              | refine T_if_eq_f (tgt := 34) (pc1 := 4) (pc := 1) k_M_lay_1 rfl rfl (by decide) ?_
              | refine T_if_eq (tgt := 34) (pc1 := 4) (pc := 1) k_M_lay_1 rfl rfl (fun hc => ?_) (fun hc => ?_)
              | refine T_iload_n (pc1 := 5) (pc := 4) k_M_lay_4 rfl rfl ?_
              | refine T_iconst (v := (nI 1)) (pc1 := 6) (pc := 5) k_M_lay_5 rfl (by decide) ?_
              | (with_reducible refine T_icmp_neN (tgt := 17) (pc1 := 9) (pc := 6) k_M_lay_6 (by decide) (by decide) (by omega) (by omega) (fun hc => ?_) (fun hc => ?_) <;> first | (exfalso; omega) | skip)
              | refine T_icmp_ne_t (tgt := 17) (pc := 6) k_M_lay_6 rfl (by decide) ?_
              | refine T_icmp_ne_f (tgt := 17) (pc1 := 9) (pc := 6) k_M_lay_6 rfl rfl (by decide) ?_
              | refine T_icmp_ne (tgt := 17) (pc1 := 9) (pc := 6) k_M_lay_6 rfl rfl (fun hc => ?_) (fun hc => ?_)
              | refine T_aload_n (pc1 := 10) (pc := 9) k_M_lay_9 rfl rfl ?_
              | refine T_aload_nN (pc1 := 10) (pc := 9) k_M_lay_9 rfl rfl ?_
              | refine T_iload_n (pc1 := 11) (pc := 10) k_M_lay_10 rfl rfl ?_
              | (refine T_cV (As := [_]) (d1 := 2) (pc1 := 14) (pc := 11) k_M_lay_11 rfl (by decide) (Nat.le_of_ble_eq_true rfl) rfl o_M_isBit l_M_140 rfl (by first | exact ga G (by decide) rfl | assumption) rfl (c_M_isBit G hN hn h14 (fun hw => ?_) (fun hw => ?_)) <;> try dsimp only [psh])
              | (with_reducible refine T_if_neN (tgt := 34) (pc1 := 17) (pc := 14) k_M_lay_14 (by decide) (by decide) (by omega) (fun hc => ?_) (fun hc => ?_) <;> first | (exfalso; omega) | skip)
              | refine T_if_ne_t (tgt := 34) (pc := 14) k_M_lay_14 rfl (by decide) ?_
              | refine T_if_ne_f (tgt := 34) (pc1 := 17) (pc := 14) k_M_lay_14 rfl rfl (by decide) ?_
              | refine T_if_ne (tgt := 34) (pc1 := 17) (pc := 14) k_M_lay_14 rfl rfl (fun hc => ?_) (fun hc => ?_)
              | refine T_iload_n (pc1 := 18) (pc := 17) k_M_lay_17 rfl rfl ?_
              | refine T_iconst (v := (nI 2)) (pc1 := 19) (pc := 18) k_M_lay_18 rfl (by decide) ?_
              | (with_reducible refine T_icmp_neN (tgt := 29) (pc1 := 22) (pc := 19) k_M_lay_19 (by decide) (by decide) (by omega) (by omega) (fun hc => ?_) (fun hc => ?_) <;> first | (exfalso; omega) | skip)
              | refine T_icmp_ne_t (tgt := 29) (pc := 19) k_M_lay_19 rfl (by decide) ?_
              | refine T_icmp_ne_f (tgt := 29) (pc1 := 22) (pc := 19) k_M_lay_19 rfl rfl (by decide) ?_
              | refine T_icmp_ne (tgt := 29) (pc1 := 22) (pc := 19) k_M_lay_19 rfl rfl (fun hc => ?_) (fun hc => ?_)
              | refine T_iload_n (pc1 := 23) (pc := 22) k_M_lay_22 rfl rfl ?_
              | (refine T_cS (As := [_]) (d1 := 2) (pc1 := 26) (pc := 23) k_M_lay_23 rfl (by decide) (Nat.le_of_ble_eq_true rfl) rfl o_M_isSheet l_M_193 rfl (c_M_isSheet (fun hw => ?_) (fun hw => ?_)) <;> try dsimp only [psh])
              | (with_reducible refine T_if_neN (tgt := 34) (pc1 := 29) (pc := 26) k_M_lay_26 (by decide) (by decide) (by omega) (fun hc => ?_) (fun hc => ?_) <;> first | (exfalso; omega) | skip)
              | refine T_if_ne_t (tgt := 34) (pc := 26) k_M_lay_26 rfl (by decide) ?_
              | refine T_if_ne_f (tgt := 34) (pc1 := 29) (pc := 26) k_M_lay_26 rfl rfl (by decide) ?_
              | refine T_if_ne (tgt := 34) (pc1 := 29) (pc := 26) k_M_lay_26 rfl rfl (fun hc => ?_) (fun hc => ?_)
              | refine T_iload_n (pc1 := 30) (pc := 29) k_M_lay_29 rfl rfl ?_
              | refine T_iconst (v := (nI 3)) (pc1 := 31) (pc := 30) k_M_lay_30 rfl (by decide) ?_
              | (with_reducible refine T_icmp_neN (tgt := 38) (pc1 := 34) (pc := 31) k_M_lay_31 (by decide) (by decide) (by omega) (by omega) (fun hc => ?_) (fun hc => ?_) <;> first | (exfalso; omega) | skip)
              | refine T_icmp_ne_t (tgt := 38) (pc := 31) k_M_lay_31 rfl (by decide) ?_
              | refine T_icmp_ne_f (tgt := 38) (pc1 := 34) (pc := 31) k_M_lay_31 rfl rfl (by decide) ?_
              | refine T_icmp_ne (tgt := 38) (pc1 := 34) (pc := 31) k_M_lay_31 rfl rfl (fun hc => ?_) (fun hc => ?_)
              | refine T_iconst (v := (nI 1)) (pc1 := 35) (pc := 34) k_M_lay_34 rfl (by decide) ?_
              | refine T_goto (tgt := 39) (pc := 35) k_M_lay_35 rfl ?_
              | refine T_iconst (v := (nI 0)) (pc1 := 39) (pc := 38) k_M_lay_38 rfl (by decide) ?_
              | refine T_istore (pc1 := 41) (pc := 39) k_M_lay_39 rfl (Nat.le_of_ble_eq_true rfl) ?_
              | refine T_iload_n (pc1 := 42) (pc := 41) k_M_lay_41 rfl rfl ?_
              | (refine T_cS (As := [_]) (d1 := 2) (pc1 := 45) (pc := 42) k_M_lay_42 rfl (by decide) (Nat.le_of_ble_eq_true rfl) rfl o_M_isSlot l_M_300 rfl (c_M_isSlot (fun hw => ?_) (fun hw => ?_)) <;> try dsimp only [psh])
              | (with_reducible refine T_if_eqN (tgt := 53) (pc1 := 48) (pc := 45) k_M_lay_45 (by decide) (by decide) (by omega) (fun hc => ?_) (fun hc => ?_) <;> first | (exfalso; omega) | skip)
              | refine T_if_eq_t (tgt := 53) (pc := 45) k_M_lay_45 rfl (by decide) ?_
              | refine T_if_eq_f (tgt := 53) (pc1 := 48) (pc := 45) k_M_lay_45 rfl rfl (by decide) ?_
              | refine T_if_eq (tgt := 53) (pc1 := 48) (pc := 45) k_M_lay_45 rfl rfl (fun hc => ?_) (fun hc => ?_)
              | refine T_iload (pc1 := 50) (pc := 48) k_M_lay_48 rfl rfl ?_
              | (with_reducible refine T_if_neN (tgt := 56) (pc1 := 53) (pc := 50) k_M_lay_50 (by decide) (by decide) (by omega) (fun hc => ?_) (fun hc => ?_) <;> first | (exfalso; omega) | skip)
              | refine T_if_ne_t (tgt := 56) (pc := 50) k_M_lay_50 rfl (by decide) ?_
              | refine T_if_ne_f (tgt := 56) (pc1 := 53) (pc := 50) k_M_lay_50 rfl rfl (by decide) ?_
              | refine T_if_ne (tgt := 56) (pc1 := 53) (pc := 50) k_M_lay_50 rfl rfl (fun hc => ?_) (fun hc => ?_)
              | refine T_ldc (v := (-1000000001)) (pc1 := 55) (pc := 53) k_M_lay_53 rfl c_M_111 ?_
              | refine T_retI (pc := 55) k_M_lay_55 rfl (by first | rfl | decide | assumption) ?_
              | refine T_bipush (v := (nI 25)) (pc1 := 58) (pc := 56) k_M_lay_56 rfl (by decide) ?_
              | refine T_iload_n (pc1 := 59) (pc := 58) k_M_lay_58 rfl rfl ?_
              | with_reducible refine T_imulN (pc1 := 60) (pc := 59) k_M_lay_59 (by decide) ?_
              | refine T_imul (pc1 := 60) (pc := 59) k_M_lay_59 rfl ?_
              | refine T_istore (pc1 := 62) (pc := 60) k_M_lay_60 rfl (Nat.le_of_ble_eq_true rfl) ?_
              | refine T_iload_n (pc1 := 63) (pc := 62) k_M_lay_62 rfl rfl ?_
              | refine T_iconst (v := (nI 2)) (pc1 := 64) (pc := 63) k_M_lay_63 rfl (by decide) ?_
              | (with_reducible refine T_icmp_neN (tgt := 135) (pc1 := 67) (pc := 64) k_M_lay_64 (by decide) (by decide) (by omega) (by omega) (fun hc => ?_) (fun hc => ?_) <;> first | (exfalso; omega) | skip)
              | refine T_icmp_ne_t (tgt := 135) (pc := 64) k_M_lay_64 rfl (by decide) ?_
              | refine T_icmp_ne_f (tgt := 135) (pc1 := 67) (pc := 64) k_M_lay_64 rfl rfl (by decide) ?_
              | refine T_icmp_ne (tgt := 135) (pc1 := 67) (pc := 64) k_M_lay_64 rfl rfl (fun hc => ?_) (fun hc => ?_)
              | refine T_aload_n (pc1 := 68) (pc := 67) k_M_lay_67 rfl rfl ?_
              | refine T_aload_nN (pc1 := 68) (pc := 67) k_M_lay_67 rfl rfl ?_
              | refine T_getR (pc1 := 71) (pc := 68) k_M_lay_68 rfl f_M_61 rfl (by first | exact ga G (by decide) rfl | assumption) (by first | exact gr G (by decide) rfl | assumption) ?_
              | refine T_iload_n (pc1 := 72) (pc := 71) k_M_lay_71 rfl rfl ?_
              | refine T_ialdN (pc1 := 73) (pc := 72) k_M_lay_72 rfl (by first | exact ga G (by decide) rfl | assumption) (by omega) (by omega) (by first | assumption | (simp (disch := omega) only [pI_eq, pI_row, pI_col, va_up_self, va_up_ne, ne_eq, not_false_eq_true, hSo, h1] <;> rfl) | rfl) ?_
              | refine T_iald (pc1 := 73) (pc := 72) k_M_lay_72 rfl (by first | exact ga G (by decide) rfl | assumption) (by assumption) ?_
              | (with_reducible refine T_if_geN (tgt := 79) (pc1 := 76) (pc := 73) k_M_lay_73 (by decide) (by decide) (by omega) ?_ <;> first | (exfalso; omega) | skip)
              | refine T_if_ge_t (tgt := 79) (pc := 73) k_M_lay_73 rfl (by decide) ?_
              | refine T_if_ge_f (tgt := 79) (pc1 := 76) (pc := 73) k_M_lay_73 rfl rfl (by decide) ?_
              | refine T_if_ge (tgt := 79) (pc1 := 76) (pc := 73) k_M_lay_73 rfl rfl (fun hc => ?_) (fun hc => ?_)
              | refine T_ldc (v := (-1000000011)) (pc1 := 78) (pc := 76) k_M_lay_76 rfl c_M_196 ?_
              | refine T_retI (pc := 78) k_M_lay_78 rfl (by first | rfl | decide | assumption) ?_
              | refine T_aload_n (pc1 := 80) (pc := 79) k_M_lay_79 rfl rfl ?_
              | refine T_aload_nN (pc1 := 80) (pc := 79) k_M_lay_79 rfl rfl ?_
              | refine T_getR (pc1 := 83) (pc := 80) k_M_lay_80 rfl f_M_76 rfl (by first | exact ga G (by decide) rfl | assumption) (by first | exact gr G (by decide) rfl | assumption) ?_
              | refine T_iload (pc1 := 85) (pc := 83) k_M_lay_83 rfl rfl ?_
              | refine T_aload_n (pc1 := 86) (pc := 85) k_M_lay_85 rfl rfl ?_
              | refine T_aload_nN (pc1 := 86) (pc := 85) k_M_lay_85 rfl rfl ?_
              | refine T_getR (pc1 := 89) (pc := 86) k_M_lay_86 rfl f_M_64 rfl (by first | exact ga G (by decide) rfl | assumption) (by first | exact gr G (by decide) rfl | assumption) ?_
              | refine T_iload_n (pc1 := 90) (pc := 89) k_M_lay_89 rfl rfl ?_
              | refine T_ialdN (pc1 := 91) (pc := 90) k_M_lay_90 rfl (by first | exact ga G (by decide) rfl | assumption) (by omega) (by omega) (by first | assumption | (simp (disch := omega) only [pI_eq, pI_row, pI_col, va_up_self, va_up_ne, ne_eq, not_false_eq_true, hSo, h1] <;> rfl) | rfl) ?_
              | refine T_iald (pc1 := 91) (pc := 90) k_M_lay_90 rfl (by first | exact ga G (by decide) rfl | assumption) (by assumption) ?_
              | refine T_iastN (pc1 := 92) (pc := 91) k_M_lay_91 rfl (by first | exact ga G (by decide) rfl | assumption) (by omega) (by omega) ?_
              | refine T_iconst (v := (nI 0)) (pc1 := 93) (pc := 92) k_M_lay_92 rfl (by decide) ?_
              | refine T_istore (pc1 := 95) (pc := 93) k_M_lay_93 rfl (Nat.le_of_ble_eq_true rfl) ?_
              | refine T_bipush (v := (nI 24)) (pc1 := 99) (pc := 97) k_M_lay_97 rfl (by decide) ?_
              | (with_reducible refine T_icmp_geN (tgt := 132) (pc1 := 102) (pc := 99) k_M_lay_99 (by decide) (by decide) (by omega) (by omega) (fun hc => ?_) (fun hc => ?_) <;> first | (exfalso; omega) | skip)
              | refine T_icmp_ge_t (tgt := 132) (pc := 99) k_M_lay_99 rfl (by decide) ?_
              | refine T_icmp_ge_f (tgt := 132) (pc1 := 102) (pc := 99) k_M_lay_99 rfl rfl (by decide) ?_
              | refine T_icmp_ge (tgt := 132) (pc1 := 102) (pc := 99) k_M_lay_99 rfl rfl (fun hc => ?_) (fun hc => ?_)
              | refine T_aload_n (pc1 := 103) (pc := 102) k_M_lay_102 rfl rfl ?_
              | refine T_aload_nN (pc1 := 103) (pc := 102) k_M_lay_102 rfl rfl ?_
              | refine T_getR (pc1 := 106) (pc := 103) k_M_lay_103 rfl f_M_76 rfl (by first | exact ga G (by decide) rfl | assumption) (by first | exact gr G (by decide) rfl | assumption) ?_
              | refine T_iload (pc1 := 108) (pc := 106) k_M_lay_106 rfl rfl ?_
              | refine T_iconst (v := (nI 1)) (pc1 := 109) (pc := 108) k_M_lay_108 rfl (by decide) ?_
              | with_reducible refine T_iaddN (pc1 := 110) (pc := 109) k_M_lay_109 (by decide) ?_
              | refine T_iadd (pc1 := 110) (pc := 109) k_M_lay_109 rfl ?_
              | refine T_iload (pc1 := 112) (pc := 110) k_M_lay_110 rfl rfl ?_
              | with_reducible refine T_iaddN (pc1 := 113) (pc := 112) k_M_lay_112 (by decide) ?_
              | refine T_iadd (pc1 := 113) (pc := 112) k_M_lay_112 rfl ?_
              | refine T_aload_n (pc1 := 114) (pc := 113) k_M_lay_113 rfl rfl ?_
              | refine T_aload_nN (pc1 := 114) (pc := 113) k_M_lay_113 rfl rfl ?_
              | refine T_getR (pc1 := 117) (pc := 114) k_M_lay_114 rfl f_M_67 rfl (by first | exact ga G (by decide) rfl | assumption) (by first | exact gr G (by decide) rfl | assumption) ?_
              | refine T_bipush (v := (nI 24)) (pc1 := 119) (pc := 117) k_M_lay_117 rfl (by decide) ?_
              | refine T_iload_n (pc1 := 120) (pc := 119) k_M_lay_119 rfl rfl ?_
              | with_reducible refine T_imulN (pc1 := 121) (pc := 120) k_M_lay_120 (by decide) ?_
              | refine T_imul (pc1 := 121) (pc := 120) k_M_lay_120 rfl ?_
              | refine T_iload (pc1 := 123) (pc := 121) k_M_lay_121 rfl rfl ?_
              | with_reducible refine T_iaddN (pc1 := 124) (pc := 123) k_M_lay_123 (by decide) ?_
              | refine T_iadd (pc1 := 124) (pc := 123) k_M_lay_123 rfl ?_
              | refine T_ialdN (pc1 := 125) (pc := 124) k_M_lay_124 rfl (by first | exact ga G (by decide) rfl | assumption) (by omega) (by omega) (by first | assumption | (simp (disch := omega) only [pI_eq, pI_row, pI_col, va_up_self, va_up_ne, ne_eq, not_false_eq_true, hSo, h1] <;> rfl) | rfl) ?_
              | refine T_iald (pc1 := 125) (pc := 124) k_M_lay_124 rfl (by first | exact ga G (by decide) rfl | assumption) (by assumption) ?_
              | refine T_iastN (pc1 := 126) (pc := 125) k_M_lay_125 rfl (by first | exact ga G (by decide) rfl | assumption) (by omega) (by omega) ?_
              | refine T_iincN (b := 1) (pc1 := 129) (pc := 126) k_M_lay_126 rfl rfl (by decide) ?_
              | refine T_iinc (v := (nI 1)) (pc1 := 129) (pc := 126) k_M_lay_126 rfl rfl (by decide) ?_
              | refine T_goto (tgt := 95) (pc := 129) k_M_lay_129 rfl ?_
              | refine T_goto (tgt := 179) (pc := 132) k_M_lay_132 rfl ?_
              | refine T_iload_n (pc1 := 136) (pc := 135) k_M_lay_135 rfl rfl ?_
              | refine T_iconst (v := (nI 1)) (pc1 := 137) (pc := 136) k_M_lay_136 rfl (by decide) ?_
              | (with_reducible refine T_icmp_neN (tgt := 171) (pc1 := 140) (pc := 137) k_M_lay_137 (by decide) (by decide) (by omega) (by omega) (fun hc => ?_) (fun hc => ?_) <;> first | (exfalso; omega) | skip)
              | refine T_icmp_ne_t (tgt := 171) (pc := 137) k_M_lay_137 rfl (by decide) ?_
              | refine T_icmp_ne_f (tgt := 171) (pc1 := 140) (pc := 137) k_M_lay_137 rfl rfl (by decide) ?_
              | refine T_icmp_ne (tgt := 171) (pc1 := 140) (pc := 137) k_M_lay_137 rfl rfl (fun hc => ?_) (fun hc => ?_)
              | refine T_aload_n (pc1 := 141) (pc := 140) k_M_lay_140 rfl rfl ?_
              | refine T_aload_nN (pc1 := 141) (pc := 140) k_M_lay_140 rfl rfl ?_
              | refine T_getR (pc1 := 144) (pc := 141) k_M_lay_141 rfl f_M_76 rfl (by first | exact ga G (by decide) rfl | assumption) (by first | exact gr G (by decide) rfl | assumption) ?_
              | refine T_iload (pc1 := 146) (pc := 144) k_M_lay_144 rfl rfl ?_
              | refine T_aload_n (pc1 := 147) (pc := 146) k_M_lay_146 rfl rfl ?_
              | refine T_aload_nN (pc1 := 147) (pc := 146) k_M_lay_146 rfl rfl ?_
              | refine T_iload_n (pc1 := 148) (pc := 147) k_M_lay_147 rfl rfl ?_
              | refine T_iconst (v := (nI 0)) (pc1 := 149) (pc := 148) k_M_lay_148 rfl (by decide) ?_
              | (refine T_cV (As := [_, _]) (d1 := 1) (pc1 := 152) (pc := 149) k_M_lay_149 rfl (by decide) (Nat.le_of_ble_eq_true rfl) rfl o_M_bitIs l_M_124 rfl (by first | exact ga G (by decide) rfl | assumption) rfl (c_M_bitN G (by assumption) (by omega) (by omega) (by first | assumption | rfl) ?_) <;> try dsimp only [psh])
              | refine T_iastN (pc1 := 153) (pc := 152) k_M_lay_152 rfl (by first | exact ga G (by decide) rfl | assumption) (by omega) (by omega) ?_
              | refine T_aload_n (pc1 := 154) (pc := 153) k_M_lay_153 rfl rfl ?_
              | refine T_aload_nN (pc1 := 154) (pc := 153) k_M_lay_153 rfl rfl ?_
              | refine T_getR (pc1 := 157) (pc := 154) k_M_lay_154 rfl f_M_76 rfl (by first | exact ga G (by decide) rfl | assumption) (by first | exact gr G (by decide) rfl | assumption) ?_
              | refine T_iload (pc1 := 159) (pc := 157) k_M_lay_157 rfl rfl ?_
              | refine T_iconst (v := (nI 1)) (pc1 := 160) (pc := 159) k_M_lay_159 rfl (by decide) ?_
              | with_reducible refine T_iaddN (pc1 := 161) (pc := 160) k_M_lay_160 (by decide) ?_
              | refine T_iadd (pc1 := 161) (pc := 160) k_M_lay_160 rfl ?_
              | refine T_aload_n (pc1 := 162) (pc := 161) k_M_lay_161 rfl rfl ?_
              | refine T_aload_nN (pc1 := 162) (pc := 161) k_M_lay_161 rfl rfl ?_
              | refine T_iload_n (pc1 := 163) (pc := 162) k_M_lay_162 rfl rfl ?_
              | refine T_iconst (v := (nI 3)) (pc1 := 164) (pc := 163) k_M_lay_163 rfl (by decide) ?_
              | (refine T_cV (As := [_, _]) (d1 := 1) (pc1 := 167) (pc := 164) k_M_lay_164 rfl (by decide) (Nat.le_of_ble_eq_true rfl) rfl o_M_bitIs l_M_124 rfl (by first | exact ga G (by decide) rfl | assumption) rfl (c_M_bitN (N := N) G (by rw [pI_rw (by decide)]; exact hN) (by omega) (by omega) rfl ?_) <;> try dsimp only [psh])
              | refine T_iastN (pc1 := 168) (pc := 167) k_M_lay_167 rfl (by first | exact ga G (by decide) rfl | assumption) (by omega) (by omega) ?_
              | refine T_goto (tgt := 179) (pc := 168) k_M_lay_168 rfl ?_
              | refine T_aload_n (pc1 := 172) (pc := 171) k_M_lay_171 rfl rfl ?_
              | refine T_aload_nN (pc1 := 172) (pc := 171) k_M_lay_171 rfl rfl ?_
              | refine T_getR (pc1 := 175) (pc := 172) k_M_lay_172 rfl f_M_76 rfl (by first | exact ga G (by decide) rfl | assumption) (by first | exact gr G (by decide) rfl | assumption) ?_
              | refine T_iload (pc1 := 177) (pc := 175) k_M_lay_175 rfl rfl ?_
              | refine T_iload_n (pc1 := 178) (pc := 177) k_M_lay_177 rfl rfl ?_
              | refine T_iastN (pc1 := 179) (pc := 178) k_M_lay_178 rfl (by first | exact ga G (by decide) rfl | assumption) (by omega) (by omega) ?_
              | refine T_aload_n (pc1 := 180) (pc := 179) k_M_lay_179 rfl rfl ?_
              | refine T_aload_nN (pc1 := 180) (pc := 179) k_M_lay_179 rfl rfl ?_
              | refine T_iload_n (pc1 := 181) (pc := 180) k_M_lay_180 rfl rfl ?_
              | refine T_iload_n (pc1 := 182) (pc := 181) k_M_lay_181 rfl rfl ?_
              | (refine T_cV (As := [_, _]) (d1 := 1) (pc1 := 185) (pc := 182) k_M_lay_182 rfl (by decide) (Nat.le_of_ble_eq_true rfl) rfl o_M_holds l_M_303 rfl (by first | exact ga G (by decide) rfl | assumption) rfl (c_M_holds (Th := Th) G hT (by omega) ?_) <;> try dsimp only [psh])
              | refine T_retI (pc := 185) k_M_lay_185 rfl (by first | rfl | decide | assumption) ?_)
            refine ih (i + 1) _ (by omega) (eqx_pI hJ _ (by decide)) ((pI_rw (by decide)).trans hT) ?_
            rw [pI_self, hH, vcpy_s]
        have e115 : I 115 b = Si b := by rw [hSi]
        rcases h1 with h1 | h1
        all_goals
          repeat' (first
            | refine T_iload_n (pc1 := 1) (pc := 0) k_M_lay_0 rfl rfl ?_
            | (with_reducible refine T_if_eqN (tgt := 34) (pc1 := 4) (pc := 1) k_M_lay_1 (by decide) (by decide) (by omega) (fun hc => ?_) (fun hc => ?_) <;> first | (exfalso; omega) | skip)
            | refine T_if_eq_t (tgt := 34) (pc := 1) k_M_lay_1 rfl (by decide) ?_
            | refine T_if_eq_f (tgt := 34) (pc1 := 4) (pc := 1) k_M_lay_1 rfl rfl (by decide) ?_
            | refine T_if_eq (tgt := 34) (pc1 := 4) (pc := 1) k_M_lay_1 rfl rfl (fun hc => ?_) (fun hc => ?_)
            | refine T_iload_n (pc1 := 5) (pc := 4) k_M_lay_4 rfl rfl ?_
            | refine T_iconst (v := (nI 1)) (pc1 := 6) (pc := 5) k_M_lay_5 rfl (by decide) ?_
            | (with_reducible refine T_icmp_neN (tgt := 17) (pc1 := 9) (pc := 6) k_M_lay_6 (by decide) (by decide) (by omega) (by omega) (fun hc => ?_) (fun hc => ?_) <;> first | (exfalso; omega) | skip)
            | refine T_icmp_ne_t (tgt := 17) (pc := 6) k_M_lay_6 rfl (by decide) ?_
            | refine T_icmp_ne_f (tgt := 17) (pc1 := 9) (pc := 6) k_M_lay_6 rfl rfl (by decide) ?_
            | refine T_icmp_ne (tgt := 17) (pc1 := 9) (pc := 6) k_M_lay_6 rfl rfl (fun hc => ?_) (fun hc => ?_)
            | refine T_aload_n (pc1 := 10) (pc := 9) k_M_lay_9 rfl rfl ?_
            | refine T_aload_nN (pc1 := 10) (pc := 9) k_M_lay_9 rfl rfl ?_
            | refine T_iload_n (pc1 := 11) (pc := 10) k_M_lay_10 rfl rfl ?_
            | (refine T_cV (As := [_]) (d1 := 2) (pc1 := 14) (pc := 11) k_M_lay_11 rfl (by decide) (Nat.le_of_ble_eq_true rfl) rfl o_M_isBit l_M_140 rfl (by first | exact ga G (by decide) rfl | assumption) rfl (c_M_isBit G hN hn h14 (fun hw => ?_) (fun hw => ?_)) <;> try dsimp only [psh])
            | (with_reducible refine T_if_neN (tgt := 34) (pc1 := 17) (pc := 14) k_M_lay_14 (by decide) (by decide) (by omega) (fun hc => ?_) (fun hc => ?_) <;> first | (exfalso; omega) | skip)
            | refine T_if_ne_t (tgt := 34) (pc := 14) k_M_lay_14 rfl (by decide) ?_
            | refine T_if_ne_f (tgt := 34) (pc1 := 17) (pc := 14) k_M_lay_14 rfl rfl (by decide) ?_
            | refine T_if_ne (tgt := 34) (pc1 := 17) (pc := 14) k_M_lay_14 rfl rfl (fun hc => ?_) (fun hc => ?_)
            | refine T_iload_n (pc1 := 18) (pc := 17) k_M_lay_17 rfl rfl ?_
            | refine T_iconst (v := (nI 2)) (pc1 := 19) (pc := 18) k_M_lay_18 rfl (by decide) ?_
            | (with_reducible refine T_icmp_neN (tgt := 29) (pc1 := 22) (pc := 19) k_M_lay_19 (by decide) (by decide) (by omega) (by omega) (fun hc => ?_) (fun hc => ?_) <;> first | (exfalso; omega) | skip)
            | refine T_icmp_ne_t (tgt := 29) (pc := 19) k_M_lay_19 rfl (by decide) ?_
            | refine T_icmp_ne_f (tgt := 29) (pc1 := 22) (pc := 19) k_M_lay_19 rfl rfl (by decide) ?_
            | refine T_icmp_ne (tgt := 29) (pc1 := 22) (pc := 19) k_M_lay_19 rfl rfl (fun hc => ?_) (fun hc => ?_)
            | refine T_iload_n (pc1 := 23) (pc := 22) k_M_lay_22 rfl rfl ?_
            | (refine T_cS (As := [_]) (d1 := 2) (pc1 := 26) (pc := 23) k_M_lay_23 rfl (by decide) (Nat.le_of_ble_eq_true rfl) rfl o_M_isSheet l_M_193 rfl (c_M_isSheet (fun hw => ?_) (fun hw => ?_)) <;> try dsimp only [psh])
            | (with_reducible refine T_if_neN (tgt := 34) (pc1 := 29) (pc := 26) k_M_lay_26 (by decide) (by decide) (by omega) (fun hc => ?_) (fun hc => ?_) <;> first | (exfalso; omega) | skip)
            | refine T_if_ne_t (tgt := 34) (pc := 26) k_M_lay_26 rfl (by decide) ?_
            | refine T_if_ne_f (tgt := 34) (pc1 := 29) (pc := 26) k_M_lay_26 rfl rfl (by decide) ?_
            | refine T_if_ne (tgt := 34) (pc1 := 29) (pc := 26) k_M_lay_26 rfl rfl (fun hc => ?_) (fun hc => ?_)
            | refine T_iload_n (pc1 := 30) (pc := 29) k_M_lay_29 rfl rfl ?_
            | refine T_iconst (v := (nI 3)) (pc1 := 31) (pc := 30) k_M_lay_30 rfl (by decide) ?_
            | (with_reducible refine T_icmp_neN (tgt := 38) (pc1 := 34) (pc := 31) k_M_lay_31 (by decide) (by decide) (by omega) (by omega) (fun hc => ?_) (fun hc => ?_) <;> first | (exfalso; omega) | skip)
            | refine T_icmp_ne_t (tgt := 38) (pc := 31) k_M_lay_31 rfl (by decide) ?_
            | refine T_icmp_ne_f (tgt := 38) (pc1 := 34) (pc := 31) k_M_lay_31 rfl rfl (by decide) ?_
            | refine T_icmp_ne (tgt := 38) (pc1 := 34) (pc := 31) k_M_lay_31 rfl rfl (fun hc => ?_) (fun hc => ?_)
            | refine T_iconst (v := (nI 1)) (pc1 := 35) (pc := 34) k_M_lay_34 rfl (by decide) ?_
            | refine T_goto (tgt := 39) (pc := 35) k_M_lay_35 rfl ?_
            | refine T_iconst (v := (nI 0)) (pc1 := 39) (pc := 38) k_M_lay_38 rfl (by decide) ?_
            | refine T_istore (pc1 := 41) (pc := 39) k_M_lay_39 rfl (Nat.le_of_ble_eq_true rfl) ?_
            | refine T_iload_n (pc1 := 42) (pc := 41) k_M_lay_41 rfl rfl ?_
            | (refine T_cS (As := [_]) (d1 := 2) (pc1 := 45) (pc := 42) k_M_lay_42 rfl (by decide) (Nat.le_of_ble_eq_true rfl) rfl o_M_isSlot l_M_300 rfl (c_M_isSlot (fun hw => ?_) (fun hw => ?_)) <;> try dsimp only [psh])
            | (with_reducible refine T_if_eqN (tgt := 53) (pc1 := 48) (pc := 45) k_M_lay_45 (by decide) (by decide) (by omega) (fun hc => ?_) (fun hc => ?_) <;> first | (exfalso; omega) | skip)
            | refine T_if_eq_t (tgt := 53) (pc := 45) k_M_lay_45 rfl (by decide) ?_
            | refine T_if_eq_f (tgt := 53) (pc1 := 48) (pc := 45) k_M_lay_45 rfl rfl (by decide) ?_
            | refine T_if_eq (tgt := 53) (pc1 := 48) (pc := 45) k_M_lay_45 rfl rfl (fun hc => ?_) (fun hc => ?_)
            | refine T_iload (pc1 := 50) (pc := 48) k_M_lay_48 rfl rfl ?_
            | (with_reducible refine T_if_neN (tgt := 56) (pc1 := 53) (pc := 50) k_M_lay_50 (by decide) (by decide) (by omega) (fun hc => ?_) (fun hc => ?_) <;> first | (exfalso; omega) | skip)
            | refine T_if_ne_t (tgt := 56) (pc := 50) k_M_lay_50 rfl (by decide) ?_
            | refine T_if_ne_f (tgt := 56) (pc1 := 53) (pc := 50) k_M_lay_50 rfl rfl (by decide) ?_
            | refine T_if_ne (tgt := 56) (pc1 := 53) (pc := 50) k_M_lay_50 rfl rfl (fun hc => ?_) (fun hc => ?_)
            | refine T_ldc (v := (-1000000001)) (pc1 := 55) (pc := 53) k_M_lay_53 rfl c_M_111 ?_
            | refine T_retI (pc := 55) k_M_lay_55 rfl (by first | rfl | decide | assumption) ?_
            | refine T_bipush (v := (nI 25)) (pc1 := 58) (pc := 56) k_M_lay_56 rfl (by decide) ?_
            | refine T_iload_n (pc1 := 59) (pc := 58) k_M_lay_58 rfl rfl ?_
            | with_reducible refine T_imulN (pc1 := 60) (pc := 59) k_M_lay_59 (by decide) ?_
            | refine T_imul (pc1 := 60) (pc := 59) k_M_lay_59 rfl ?_
            | refine T_istore (pc1 := 62) (pc := 60) k_M_lay_60 rfl (Nat.le_of_ble_eq_true rfl) ?_
            | refine T_iload_n (pc1 := 63) (pc := 62) k_M_lay_62 rfl rfl ?_
            | refine T_iconst (v := (nI 2)) (pc1 := 64) (pc := 63) k_M_lay_63 rfl (by decide) ?_
            | (with_reducible refine T_icmp_neN (tgt := 135) (pc1 := 67) (pc := 64) k_M_lay_64 (by decide) (by decide) (by omega) (by omega) (fun hc => ?_) (fun hc => ?_) <;> first | (exfalso; omega) | skip)
            | refine T_icmp_ne_t (tgt := 135) (pc := 64) k_M_lay_64 rfl (by decide) ?_
            | refine T_icmp_ne_f (tgt := 135) (pc1 := 67) (pc := 64) k_M_lay_64 rfl rfl (by decide) ?_
            | refine T_icmp_ne (tgt := 135) (pc1 := 67) (pc := 64) k_M_lay_64 rfl rfl (fun hc => ?_) (fun hc => ?_)
            | refine T_aload_n (pc1 := 68) (pc := 67) k_M_lay_67 rfl rfl ?_
            | refine T_aload_nN (pc1 := 68) (pc := 67) k_M_lay_67 rfl rfl ?_
            | refine T_getR (pc1 := 71) (pc := 68) k_M_lay_68 rfl f_M_61 rfl (by first | exact ga G (by decide) rfl | assumption) (by first | exact gr G (by decide) rfl | assumption) ?_
            | refine T_iload_n (pc1 := 72) (pc := 71) k_M_lay_71 rfl rfl ?_
            | refine T_ialdN (pc1 := 73) (pc := 72) k_M_lay_72 rfl (by first | exact ga G (by decide) rfl | assumption) (by omega) (by omega) (by first | assumption | (simp (disch := omega) only [pI_eq, pI_row, pI_col, va_up_self, va_up_ne, ne_eq, not_false_eq_true, hSo, h1] <;> rfl) | rfl) ?_
            | refine T_iald (pc1 := 73) (pc := 72) k_M_lay_72 rfl (by first | exact ga G (by decide) rfl | assumption) (by assumption) ?_
            | (with_reducible refine T_if_geN (tgt := 79) (pc1 := 76) (pc := 73) k_M_lay_73 (by decide) (by decide) (by omega) ?_ <;> first | (exfalso; omega) | skip)
            | refine T_if_ge_t (tgt := 79) (pc := 73) k_M_lay_73 rfl (by decide) ?_
            | refine T_if_ge_f (tgt := 79) (pc1 := 76) (pc := 73) k_M_lay_73 rfl rfl (by decide) ?_
            | refine T_if_ge (tgt := 79) (pc1 := 76) (pc := 73) k_M_lay_73 rfl rfl (fun hc => ?_) (fun hc => ?_)
            | refine T_ldc (v := (-1000000011)) (pc1 := 78) (pc := 76) k_M_lay_76 rfl c_M_196 ?_
            | refine T_retI (pc := 78) k_M_lay_78 rfl (by first | rfl | decide | assumption) ?_
            | refine T_aload_n (pc1 := 80) (pc := 79) k_M_lay_79 rfl rfl ?_
            | refine T_aload_nN (pc1 := 80) (pc := 79) k_M_lay_79 rfl rfl ?_
            | refine T_getR (pc1 := 83) (pc := 80) k_M_lay_80 rfl f_M_76 rfl (by first | exact ga G (by decide) rfl | assumption) (by first | exact gr G (by decide) rfl | assumption) ?_
            | refine T_iload (pc1 := 85) (pc := 83) k_M_lay_83 rfl rfl ?_
            | refine T_aload_n (pc1 := 86) (pc := 85) k_M_lay_85 rfl rfl ?_
            | refine T_aload_nN (pc1 := 86) (pc := 85) k_M_lay_85 rfl rfl ?_
            | refine T_getR (pc1 := 89) (pc := 86) k_M_lay_86 rfl f_M_64 rfl (by first | exact ga G (by decide) rfl | assumption) (by first | exact gr G (by decide) rfl | assumption) ?_
            | refine T_iload_n (pc1 := 90) (pc := 89) k_M_lay_89 rfl rfl ?_
            | refine T_ialdN (pc1 := 91) (pc := 90) k_M_lay_90 rfl (by first | exact ga G (by decide) rfl | assumption) (by omega) (by omega) (by first | assumption | (simp (disch := omega) only [pI_eq, pI_row, pI_col, va_up_self, va_up_ne, ne_eq, not_false_eq_true, hSo, h1] <;> rfl) | rfl) ?_
            | refine T_iald (pc1 := 91) (pc := 90) k_M_lay_90 rfl (by first | exact ga G (by decide) rfl | assumption) (by assumption) ?_
            | refine T_iastN (pc1 := 92) (pc := 91) k_M_lay_91 rfl (by first | exact ga G (by decide) rfl | assumption) (by omega) (by omega) ?_
            | refine T_iconst (v := (nI 0)) (pc1 := 93) (pc := 92) k_M_lay_92 rfl (by decide) ?_
            | refine T_istore (pc1 := 95) (pc := 93) k_M_lay_93 rfl (Nat.le_of_ble_eq_true rfl) ?_
            | refine T_bipush (v := (nI 24)) (pc1 := 99) (pc := 97) k_M_lay_97 rfl (by decide) ?_
            | (with_reducible refine T_icmp_geN (tgt := 132) (pc1 := 102) (pc := 99) k_M_lay_99 (by decide) (by decide) (by omega) (by omega) (fun hc => ?_) (fun hc => ?_) <;> first | (exfalso; omega) | skip)
            | refine T_icmp_ge_t (tgt := 132) (pc := 99) k_M_lay_99 rfl (by decide) ?_
            | refine T_icmp_ge_f (tgt := 132) (pc1 := 102) (pc := 99) k_M_lay_99 rfl rfl (by decide) ?_
            | refine T_icmp_ge (tgt := 132) (pc1 := 102) (pc := 99) k_M_lay_99 rfl rfl (fun hc => ?_) (fun hc => ?_)
            | refine T_aload_n (pc1 := 103) (pc := 102) k_M_lay_102 rfl rfl ?_
            | refine T_aload_nN (pc1 := 103) (pc := 102) k_M_lay_102 rfl rfl ?_
            | refine T_getR (pc1 := 106) (pc := 103) k_M_lay_103 rfl f_M_76 rfl (by first | exact ga G (by decide) rfl | assumption) (by first | exact gr G (by decide) rfl | assumption) ?_
            | refine T_iload (pc1 := 108) (pc := 106) k_M_lay_106 rfl rfl ?_
            | refine T_iconst (v := (nI 1)) (pc1 := 109) (pc := 108) k_M_lay_108 rfl (by decide) ?_
            | with_reducible refine T_iaddN (pc1 := 110) (pc := 109) k_M_lay_109 (by decide) ?_
            | refine T_iadd (pc1 := 110) (pc := 109) k_M_lay_109 rfl ?_
            | refine T_iload (pc1 := 112) (pc := 110) k_M_lay_110 rfl rfl ?_
            | with_reducible refine T_iaddN (pc1 := 113) (pc := 112) k_M_lay_112 (by decide) ?_
            | refine T_iadd (pc1 := 113) (pc := 112) k_M_lay_112 rfl ?_
            | refine T_aload_n (pc1 := 114) (pc := 113) k_M_lay_113 rfl rfl ?_
            | refine T_aload_nN (pc1 := 114) (pc := 113) k_M_lay_113 rfl rfl ?_
            | refine T_getR (pc1 := 117) (pc := 114) k_M_lay_114 rfl f_M_67 rfl (by first | exact ga G (by decide) rfl | assumption) (by first | exact gr G (by decide) rfl | assumption) ?_
            | refine T_bipush (v := (nI 24)) (pc1 := 119) (pc := 117) k_M_lay_117 rfl (by decide) ?_
            | refine T_iload_n (pc1 := 120) (pc := 119) k_M_lay_119 rfl rfl ?_
            | with_reducible refine T_imulN (pc1 := 121) (pc := 120) k_M_lay_120 (by decide) ?_
            | refine T_imul (pc1 := 121) (pc := 120) k_M_lay_120 rfl ?_
            | refine T_iload (pc1 := 123) (pc := 121) k_M_lay_121 rfl rfl ?_
            | with_reducible refine T_iaddN (pc1 := 124) (pc := 123) k_M_lay_123 (by decide) ?_
            | refine T_iadd (pc1 := 124) (pc := 123) k_M_lay_123 rfl ?_
            | refine T_ialdN (pc1 := 125) (pc := 124) k_M_lay_124 rfl (by first | exact ga G (by decide) rfl | assumption) (by omega) (by omega) (by first | assumption | (simp (disch := omega) only [pI_eq, pI_row, pI_col, va_up_self, va_up_ne, ne_eq, not_false_eq_true, hSo, h1] <;> rfl) | rfl) ?_
            | refine T_iald (pc1 := 125) (pc := 124) k_M_lay_124 rfl (by first | exact ga G (by decide) rfl | assumption) (by assumption) ?_
            | refine T_iastN (pc1 := 126) (pc := 125) k_M_lay_125 rfl (by first | exact ga G (by decide) rfl | assumption) (by omega) (by omega) ?_
            | refine T_iincN (b := 1) (pc1 := 129) (pc := 126) k_M_lay_126 rfl rfl (by decide) ?_
            | refine T_iinc (v := (nI 1)) (pc1 := 129) (pc := 126) k_M_lay_126 rfl rfl (by decide) ?_
            | refine T_goto (tgt := 95) (pc := 129) k_M_lay_129 rfl ?_
            | refine T_goto (tgt := 179) (pc := 132) k_M_lay_132 rfl ?_
            | refine T_iload_n (pc1 := 136) (pc := 135) k_M_lay_135 rfl rfl ?_
            | refine T_iconst (v := (nI 1)) (pc1 := 137) (pc := 136) k_M_lay_136 rfl (by decide) ?_
            | (with_reducible refine T_icmp_neN (tgt := 171) (pc1 := 140) (pc := 137) k_M_lay_137 (by decide) (by decide) (by omega) (by omega) (fun hc => ?_) (fun hc => ?_) <;> first | (exfalso; omega) | skip)
            | refine T_icmp_ne_t (tgt := 171) (pc := 137) k_M_lay_137 rfl (by decide) ?_
            | refine T_icmp_ne_f (tgt := 171) (pc1 := 140) (pc := 137) k_M_lay_137 rfl rfl (by decide) ?_
            | refine T_icmp_ne (tgt := 171) (pc1 := 140) (pc := 137) k_M_lay_137 rfl rfl (fun hc => ?_) (fun hc => ?_)
            | refine T_aload_n (pc1 := 141) (pc := 140) k_M_lay_140 rfl rfl ?_
            | refine T_aload_nN (pc1 := 141) (pc := 140) k_M_lay_140 rfl rfl ?_
            | refine T_getR (pc1 := 144) (pc := 141) k_M_lay_141 rfl f_M_76 rfl (by first | exact ga G (by decide) rfl | assumption) (by first | exact gr G (by decide) rfl | assumption) ?_
            | refine T_iload (pc1 := 146) (pc := 144) k_M_lay_144 rfl rfl ?_
            | refine T_aload_n (pc1 := 147) (pc := 146) k_M_lay_146 rfl rfl ?_
            | refine T_aload_nN (pc1 := 147) (pc := 146) k_M_lay_146 rfl rfl ?_
            | refine T_iload_n (pc1 := 148) (pc := 147) k_M_lay_147 rfl rfl ?_
            | refine T_iconst (v := (nI 0)) (pc1 := 149) (pc := 148) k_M_lay_148 rfl (by decide) ?_
            | (refine T_cV (As := [_, _]) (d1 := 1) (pc1 := 152) (pc := 149) k_M_lay_149 rfl (by decide) (Nat.le_of_ble_eq_true rfl) rfl o_M_bitIs l_M_124 rfl (by first | exact ga G (by decide) rfl | assumption) rfl (c_M_bitN G (by assumption) (by omega) (by omega) (by first | assumption | rfl) ?_) <;> try dsimp only [psh])
            | refine T_iastN (pc1 := 153) (pc := 152) k_M_lay_152 rfl (by first | exact ga G (by decide) rfl | assumption) (by omega) (by omega) ?_
            | refine T_aload_n (pc1 := 154) (pc := 153) k_M_lay_153 rfl rfl ?_
            | refine T_aload_nN (pc1 := 154) (pc := 153) k_M_lay_153 rfl rfl ?_
            | refine T_getR (pc1 := 157) (pc := 154) k_M_lay_154 rfl f_M_76 rfl (by first | exact ga G (by decide) rfl | assumption) (by first | exact gr G (by decide) rfl | assumption) ?_
            | refine T_iload (pc1 := 159) (pc := 157) k_M_lay_157 rfl rfl ?_
            | refine T_iconst (v := (nI 1)) (pc1 := 160) (pc := 159) k_M_lay_159 rfl (by decide) ?_
            | with_reducible refine T_iaddN (pc1 := 161) (pc := 160) k_M_lay_160 (by decide) ?_
            | refine T_iadd (pc1 := 161) (pc := 160) k_M_lay_160 rfl ?_
            | refine T_aload_n (pc1 := 162) (pc := 161) k_M_lay_161 rfl rfl ?_
            | refine T_aload_nN (pc1 := 162) (pc := 161) k_M_lay_161 rfl rfl ?_
            | refine T_iload_n (pc1 := 163) (pc := 162) k_M_lay_162 rfl rfl ?_
            | refine T_iconst (v := (nI 3)) (pc1 := 164) (pc := 163) k_M_lay_163 rfl (by decide) ?_
            | (refine T_cV (As := [_, _]) (d1 := 1) (pc1 := 167) (pc := 164) k_M_lay_164 rfl (by decide) (Nat.le_of_ble_eq_true rfl) rfl o_M_bitIs l_M_124 rfl (by first | exact ga G (by decide) rfl | assumption) rfl (c_M_bitN (N := N) G (by rw [pI_rw (by decide)]; exact hN) (by omega) (by omega) rfl ?_) <;> try dsimp only [psh])
            | refine T_iastN (pc1 := 168) (pc := 167) k_M_lay_167 rfl (by first | exact ga G (by decide) rfl | assumption) (by omega) (by omega) ?_
            | refine T_goto (tgt := 179) (pc := 168) k_M_lay_168 rfl ?_
            | refine T_aload_n (pc1 := 172) (pc := 171) k_M_lay_171 rfl rfl ?_
            | refine T_aload_nN (pc1 := 172) (pc := 171) k_M_lay_171 rfl rfl ?_
            | refine T_getR (pc1 := 175) (pc := 172) k_M_lay_172 rfl f_M_76 rfl (by first | exact ga G (by decide) rfl | assumption) (by first | exact gr G (by decide) rfl | assumption) ?_
            | refine T_iload (pc1 := 177) (pc := 175) k_M_lay_175 rfl rfl ?_
            | refine T_iload_n (pc1 := 178) (pc := 177) k_M_lay_177 rfl rfl ?_
            | refine T_iastN (pc1 := 179) (pc := 178) k_M_lay_178 rfl (by first | exact ga G (by decide) rfl | assumption) (by omega) (by omega) ?_
            | refine T_aload_n (pc1 := 180) (pc := 179) k_M_lay_179 rfl rfl ?_
            | refine T_aload_nN (pc1 := 180) (pc := 179) k_M_lay_179 rfl rfl ?_
            | refine T_iload_n (pc1 := 181) (pc := 180) k_M_lay_180 rfl rfl ?_
            | refine T_iload_n (pc1 := 182) (pc := 181) k_M_lay_181 rfl rfl ?_
            | (refine T_cV (As := [_, _]) (d1 := 1) (pc1 := 185) (pc := 182) k_M_lay_182 rfl (by decide) (Nat.le_of_ble_eq_true rfl) rfl o_M_holds l_M_303 rfl (by first | exact ga G (by decide) rfl | assumption) rfl (c_M_holds (Th := Th) G hT (by omega) ?_) <;> try dsimp only [psh])
            | refine T_retI (pc := 185) k_M_lay_185 rfl (by first | rfl | decide | assumption) ?_)
          all_goals first | contradiction | exact loop 24 0 _ (by omega) (eqx_pI eqx_rf _ (by decide)) ((pI_rw (by decide)).trans hTh) (by rw [upI hHe, vcpy_0])
    · obtain ⟨k1, k2, k3⟩ := lay_ok (N := N) (So := So) (Si := Si) (Pl := Pl) (Th := Th) (He := He) hs5 hok (fun q => absurd q.1 (by decide))
      repeat' (first
        | refine T_iload_n (pc1 := 1) (pc := 0) k_M_lay_0 rfl rfl ?_
        | (with_reducible refine T_if_eqN (tgt := 34) (pc1 := 4) (pc := 1) k_M_lay_1 (by decide) (by decide) (by omega) (fun hc => ?_) (fun hc => ?_) <;> first | (exfalso; omega) | skip)
        | refine T_if_eq_t (tgt := 34) (pc := 1) k_M_lay_1 rfl (by decide) ?_
        | refine T_if_eq_f (tgt := 34) (pc1 := 4) (pc := 1) k_M_lay_1 rfl rfl (by decide) ?_
        | refine T_if_eq (tgt := 34) (pc1 := 4) (pc := 1) k_M_lay_1 rfl rfl (fun hc => ?_) (fun hc => ?_)
        | refine T_iload_n (pc1 := 5) (pc := 4) k_M_lay_4 rfl rfl ?_
        | refine T_iconst (v := (nI 1)) (pc1 := 6) (pc := 5) k_M_lay_5 rfl (by decide) ?_
        | (with_reducible refine T_icmp_neN (tgt := 17) (pc1 := 9) (pc := 6) k_M_lay_6 (by decide) (by decide) (by omega) (by omega) (fun hc => ?_) (fun hc => ?_) <;> first | (exfalso; omega) | skip)
        | refine T_icmp_ne_t (tgt := 17) (pc := 6) k_M_lay_6 rfl (by decide) ?_
        | refine T_icmp_ne_f (tgt := 17) (pc1 := 9) (pc := 6) k_M_lay_6 rfl rfl (by decide) ?_
        | refine T_icmp_ne (tgt := 17) (pc1 := 9) (pc := 6) k_M_lay_6 rfl rfl (fun hc => ?_) (fun hc => ?_)
        | refine T_aload_n (pc1 := 10) (pc := 9) k_M_lay_9 rfl rfl ?_
        | refine T_aload_nN (pc1 := 10) (pc := 9) k_M_lay_9 rfl rfl ?_
        | refine T_iload_n (pc1 := 11) (pc := 10) k_M_lay_10 rfl rfl ?_
        | (refine T_cV (As := [_]) (d1 := 2) (pc1 := 14) (pc := 11) k_M_lay_11 rfl (by decide) (Nat.le_of_ble_eq_true rfl) rfl o_M_isBit l_M_140 rfl (by first | exact ga G (by decide) rfl | assumption) rfl (c_M_isBit G hN hn h14 (fun hw => ?_) (fun hw => ?_)) <;> try dsimp only [psh])
        | (with_reducible refine T_if_neN (tgt := 34) (pc1 := 17) (pc := 14) k_M_lay_14 (by decide) (by decide) (by omega) (fun hc => ?_) (fun hc => ?_) <;> first | (exfalso; omega) | skip)
        | refine T_if_ne_t (tgt := 34) (pc := 14) k_M_lay_14 rfl (by decide) ?_
        | refine T_if_ne_f (tgt := 34) (pc1 := 17) (pc := 14) k_M_lay_14 rfl rfl (by decide) ?_
        | refine T_if_ne (tgt := 34) (pc1 := 17) (pc := 14) k_M_lay_14 rfl rfl (fun hc => ?_) (fun hc => ?_)
        | refine T_iload_n (pc1 := 18) (pc := 17) k_M_lay_17 rfl rfl ?_
        | refine T_iconst (v := (nI 2)) (pc1 := 19) (pc := 18) k_M_lay_18 rfl (by decide) ?_
        | (with_reducible refine T_icmp_neN (tgt := 29) (pc1 := 22) (pc := 19) k_M_lay_19 (by decide) (by decide) (by omega) (by omega) (fun hc => ?_) (fun hc => ?_) <;> first | (exfalso; omega) | skip)
        | refine T_icmp_ne_t (tgt := 29) (pc := 19) k_M_lay_19 rfl (by decide) ?_
        | refine T_icmp_ne_f (tgt := 29) (pc1 := 22) (pc := 19) k_M_lay_19 rfl rfl (by decide) ?_
        | refine T_icmp_ne (tgt := 29) (pc1 := 22) (pc := 19) k_M_lay_19 rfl rfl (fun hc => ?_) (fun hc => ?_)
        | refine T_iload_n (pc1 := 23) (pc := 22) k_M_lay_22 rfl rfl ?_
        | (refine T_cS (As := [_]) (d1 := 2) (pc1 := 26) (pc := 23) k_M_lay_23 rfl (by decide) (Nat.le_of_ble_eq_true rfl) rfl o_M_isSheet l_M_193 rfl (c_M_isSheet (fun hw => ?_) (fun hw => ?_)) <;> try dsimp only [psh])
        | (with_reducible refine T_if_neN (tgt := 34) (pc1 := 29) (pc := 26) k_M_lay_26 (by decide) (by decide) (by omega) (fun hc => ?_) (fun hc => ?_) <;> first | (exfalso; omega) | skip)
        | refine T_if_ne_t (tgt := 34) (pc := 26) k_M_lay_26 rfl (by decide) ?_
        | refine T_if_ne_f (tgt := 34) (pc1 := 29) (pc := 26) k_M_lay_26 rfl rfl (by decide) ?_
        | refine T_if_ne (tgt := 34) (pc1 := 29) (pc := 26) k_M_lay_26 rfl rfl (fun hc => ?_) (fun hc => ?_)
        | refine T_iload_n (pc1 := 30) (pc := 29) k_M_lay_29 rfl rfl ?_
        | refine T_iconst (v := (nI 3)) (pc1 := 31) (pc := 30) k_M_lay_30 rfl (by decide) ?_
        | (with_reducible refine T_icmp_neN (tgt := 38) (pc1 := 34) (pc := 31) k_M_lay_31 (by decide) (by decide) (by omega) (by omega) (fun hc => ?_) (fun hc => ?_) <;> first | (exfalso; omega) | skip)
        | refine T_icmp_ne_t (tgt := 38) (pc := 31) k_M_lay_31 rfl (by decide) ?_
        | refine T_icmp_ne_f (tgt := 38) (pc1 := 34) (pc := 31) k_M_lay_31 rfl rfl (by decide) ?_
        | refine T_icmp_ne (tgt := 38) (pc1 := 34) (pc := 31) k_M_lay_31 rfl rfl (fun hc => ?_) (fun hc => ?_)
        | refine T_iconst (v := (nI 1)) (pc1 := 35) (pc := 34) k_M_lay_34 rfl (by decide) ?_
        | refine T_goto (tgt := 39) (pc := 35) k_M_lay_35 rfl ?_
        | refine T_iconst (v := (nI 0)) (pc1 := 39) (pc := 38) k_M_lay_38 rfl (by decide) ?_
        | refine T_istore (pc1 := 41) (pc := 39) k_M_lay_39 rfl (Nat.le_of_ble_eq_true rfl) ?_
        | refine T_iload_n (pc1 := 42) (pc := 41) k_M_lay_41 rfl rfl ?_
        | (refine T_cS (As := [_]) (d1 := 2) (pc1 := 45) (pc := 42) k_M_lay_42 rfl (by decide) (Nat.le_of_ble_eq_true rfl) rfl o_M_isSlot l_M_300 rfl (c_M_isSlot (fun hw => ?_) (fun hw => ?_)) <;> try dsimp only [psh])
        | (with_reducible refine T_if_eqN (tgt := 53) (pc1 := 48) (pc := 45) k_M_lay_45 (by decide) (by decide) (by omega) (fun hc => ?_) (fun hc => ?_) <;> first | (exfalso; omega) | skip)
        | refine T_if_eq_t (tgt := 53) (pc := 45) k_M_lay_45 rfl (by decide) ?_
        | refine T_if_eq_f (tgt := 53) (pc1 := 48) (pc := 45) k_M_lay_45 rfl rfl (by decide) ?_
        | refine T_if_eq (tgt := 53) (pc1 := 48) (pc := 45) k_M_lay_45 rfl rfl (fun hc => ?_) (fun hc => ?_)
        | refine T_iload (pc1 := 50) (pc := 48) k_M_lay_48 rfl rfl ?_
        | (with_reducible refine T_if_neN (tgt := 56) (pc1 := 53) (pc := 50) k_M_lay_50 (by decide) (by decide) (by omega) (fun hc => ?_) (fun hc => ?_) <;> first | (exfalso; omega) | skip)
        | refine T_if_ne_t (tgt := 56) (pc := 50) k_M_lay_50 rfl (by decide) ?_
        | refine T_if_ne_f (tgt := 56) (pc1 := 53) (pc := 50) k_M_lay_50 rfl rfl (by decide) ?_
        | refine T_if_ne (tgt := 56) (pc1 := 53) (pc := 50) k_M_lay_50 rfl rfl (fun hc => ?_) (fun hc => ?_)
        | refine T_ldc (v := (-1000000001)) (pc1 := 55) (pc := 53) k_M_lay_53 rfl c_M_111 ?_
        | refine T_retI (pc := 55) k_M_lay_55 rfl (by first | rfl | decide | assumption) ?_
        | refine T_bipush (v := (nI 25)) (pc1 := 58) (pc := 56) k_M_lay_56 rfl (by decide) ?_
        | refine T_iload_n (pc1 := 59) (pc := 58) k_M_lay_58 rfl rfl ?_
        | with_reducible refine T_imulN (pc1 := 60) (pc := 59) k_M_lay_59 (by decide) ?_
        | refine T_imul (pc1 := 60) (pc := 59) k_M_lay_59 rfl ?_
        | refine T_istore (pc1 := 62) (pc := 60) k_M_lay_60 rfl (Nat.le_of_ble_eq_true rfl) ?_
        | refine T_iload_n (pc1 := 63) (pc := 62) k_M_lay_62 rfl rfl ?_
        | refine T_iconst (v := (nI 2)) (pc1 := 64) (pc := 63) k_M_lay_63 rfl (by decide) ?_
        | (with_reducible refine T_icmp_neN (tgt := 135) (pc1 := 67) (pc := 64) k_M_lay_64 (by decide) (by decide) (by omega) (by omega) (fun hc => ?_) (fun hc => ?_) <;> first | (exfalso; omega) | skip)
        | refine T_icmp_ne_t (tgt := 135) (pc := 64) k_M_lay_64 rfl (by decide) ?_
        | refine T_icmp_ne_f (tgt := 135) (pc1 := 67) (pc := 64) k_M_lay_64 rfl rfl (by decide) ?_
        | refine T_icmp_ne (tgt := 135) (pc1 := 67) (pc := 64) k_M_lay_64 rfl rfl (fun hc => ?_) (fun hc => ?_)
        | refine T_aload_n (pc1 := 68) (pc := 67) k_M_lay_67 rfl rfl ?_
        | refine T_aload_nN (pc1 := 68) (pc := 67) k_M_lay_67 rfl rfl ?_
        | refine T_getR (pc1 := 71) (pc := 68) k_M_lay_68 rfl f_M_61 rfl (by first | exact ga G (by decide) rfl | assumption) (by first | exact gr G (by decide) rfl | assumption) ?_
        | refine T_iload_n (pc1 := 72) (pc := 71) k_M_lay_71 rfl rfl ?_
        | refine T_ialdN (pc1 := 73) (pc := 72) k_M_lay_72 rfl (by first | exact ga G (by decide) rfl | assumption) (by omega) (by omega) (by first | assumption | (simp (disch := omega) only [pI_eq, pI_row, pI_col, va_up_self, va_up_ne, ne_eq, not_false_eq_true, hSo, h1] <;> rfl) | rfl) ?_
        | refine T_iald (pc1 := 73) (pc := 72) k_M_lay_72 rfl (by first | exact ga G (by decide) rfl | assumption) (by assumption) ?_
        | (with_reducible refine T_if_geN (tgt := 79) (pc1 := 76) (pc := 73) k_M_lay_73 (by decide) (by decide) (by omega) ?_ <;> first | (exfalso; omega) | skip)
        | refine T_if_ge_t (tgt := 79) (pc := 73) k_M_lay_73 rfl (by decide) ?_
        | refine T_if_ge_f (tgt := 79) (pc1 := 76) (pc := 73) k_M_lay_73 rfl rfl (by decide) ?_
        | refine T_if_ge (tgt := 79) (pc1 := 76) (pc := 73) k_M_lay_73 rfl rfl (fun hc => ?_) (fun hc => ?_)
        | refine T_ldc (v := (-1000000011)) (pc1 := 78) (pc := 76) k_M_lay_76 rfl c_M_196 ?_
        | refine T_retI (pc := 78) k_M_lay_78 rfl (by first | rfl | decide | assumption) ?_
        | refine T_aload_n (pc1 := 80) (pc := 79) k_M_lay_79 rfl rfl ?_
        | refine T_aload_nN (pc1 := 80) (pc := 79) k_M_lay_79 rfl rfl ?_
        | refine T_getR (pc1 := 83) (pc := 80) k_M_lay_80 rfl f_M_76 rfl (by first | exact ga G (by decide) rfl | assumption) (by first | exact gr G (by decide) rfl | assumption) ?_
        | refine T_iload (pc1 := 85) (pc := 83) k_M_lay_83 rfl rfl ?_
        | refine T_aload_n (pc1 := 86) (pc := 85) k_M_lay_85 rfl rfl ?_
        | refine T_aload_nN (pc1 := 86) (pc := 85) k_M_lay_85 rfl rfl ?_
        | refine T_getR (pc1 := 89) (pc := 86) k_M_lay_86 rfl f_M_64 rfl (by first | exact ga G (by decide) rfl | assumption) (by first | exact gr G (by decide) rfl | assumption) ?_
        | refine T_iload_n (pc1 := 90) (pc := 89) k_M_lay_89 rfl rfl ?_
        | refine T_ialdN (pc1 := 91) (pc := 90) k_M_lay_90 rfl (by first | exact ga G (by decide) rfl | assumption) (by omega) (by omega) (by first | assumption | (simp (disch := omega) only [pI_eq, pI_row, pI_col, va_up_self, va_up_ne, ne_eq, not_false_eq_true, hSo, h1] <;> rfl) | rfl) ?_
        | refine T_iald (pc1 := 91) (pc := 90) k_M_lay_90 rfl (by first | exact ga G (by decide) rfl | assumption) (by assumption) ?_
        | refine T_iastN (pc1 := 92) (pc := 91) k_M_lay_91 rfl (by first | exact ga G (by decide) rfl | assumption) (by omega) (by omega) ?_
        | refine T_iconst (v := (nI 0)) (pc1 := 93) (pc := 92) k_M_lay_92 rfl (by decide) ?_
        | refine T_istore (pc1 := 95) (pc := 93) k_M_lay_93 rfl (Nat.le_of_ble_eq_true rfl) ?_
        | refine T_iload (pc1 := 97) (pc := 95) k_M_lay_95 rfl rfl ?_
        | refine T_bipush (v := (nI 24)) (pc1 := 99) (pc := 97) k_M_lay_97 rfl (by decide) ?_
        | (with_reducible refine T_icmp_geN (tgt := 132) (pc1 := 102) (pc := 99) k_M_lay_99 (by decide) (by decide) (by omega) (by omega) (fun hc => ?_) (fun hc => ?_) <;> first | (exfalso; omega) | skip)
        | refine T_icmp_ge_t (tgt := 132) (pc := 99) k_M_lay_99 rfl (by decide) ?_
        | refine T_icmp_ge_f (tgt := 132) (pc1 := 102) (pc := 99) k_M_lay_99 rfl rfl (by decide) ?_
        | refine T_icmp_ge (tgt := 132) (pc1 := 102) (pc := 99) k_M_lay_99 rfl rfl (fun hc => ?_) (fun hc => ?_)
        | refine T_aload_n (pc1 := 103) (pc := 102) k_M_lay_102 rfl rfl ?_
        | refine T_aload_nN (pc1 := 103) (pc := 102) k_M_lay_102 rfl rfl ?_
        | refine T_getR (pc1 := 106) (pc := 103) k_M_lay_103 rfl f_M_76 rfl (by first | exact ga G (by decide) rfl | assumption) (by first | exact gr G (by decide) rfl | assumption) ?_
        | refine T_iload (pc1 := 108) (pc := 106) k_M_lay_106 rfl rfl ?_
        | refine T_iconst (v := (nI 1)) (pc1 := 109) (pc := 108) k_M_lay_108 rfl (by decide) ?_
        | with_reducible refine T_iaddN (pc1 := 110) (pc := 109) k_M_lay_109 (by decide) ?_
        | refine T_iadd (pc1 := 110) (pc := 109) k_M_lay_109 rfl ?_
        | refine T_iload (pc1 := 112) (pc := 110) k_M_lay_110 rfl rfl ?_
        | with_reducible refine T_iaddN (pc1 := 113) (pc := 112) k_M_lay_112 (by decide) ?_
        | refine T_iadd (pc1 := 113) (pc := 112) k_M_lay_112 rfl ?_
        | refine T_aload_n (pc1 := 114) (pc := 113) k_M_lay_113 rfl rfl ?_
        | refine T_aload_nN (pc1 := 114) (pc := 113) k_M_lay_113 rfl rfl ?_
        | refine T_getR (pc1 := 117) (pc := 114) k_M_lay_114 rfl f_M_67 rfl (by first | exact ga G (by decide) rfl | assumption) (by first | exact gr G (by decide) rfl | assumption) ?_
        | refine T_bipush (v := (nI 24)) (pc1 := 119) (pc := 117) k_M_lay_117 rfl (by decide) ?_
        | refine T_iload_n (pc1 := 120) (pc := 119) k_M_lay_119 rfl rfl ?_
        | with_reducible refine T_imulN (pc1 := 121) (pc := 120) k_M_lay_120 (by decide) ?_
        | refine T_imul (pc1 := 121) (pc := 120) k_M_lay_120 rfl ?_
        | refine T_iload (pc1 := 123) (pc := 121) k_M_lay_121 rfl rfl ?_
        | with_reducible refine T_iaddN (pc1 := 124) (pc := 123) k_M_lay_123 (by decide) ?_
        | refine T_iadd (pc1 := 124) (pc := 123) k_M_lay_123 rfl ?_
        | refine T_ialdN (pc1 := 125) (pc := 124) k_M_lay_124 rfl (by first | exact ga G (by decide) rfl | assumption) (by omega) (by omega) (by first | assumption | (simp (disch := omega) only [pI_eq, pI_row, pI_col, va_up_self, va_up_ne, ne_eq, not_false_eq_true, hSo, h1] <;> rfl) | rfl) ?_
        | refine T_iald (pc1 := 125) (pc := 124) k_M_lay_124 rfl (by first | exact ga G (by decide) rfl | assumption) (by assumption) ?_
        | refine T_iastN (pc1 := 126) (pc := 125) k_M_lay_125 rfl (by first | exact ga G (by decide) rfl | assumption) (by omega) (by omega) ?_
        | refine T_iincN (b := 1) (pc1 := 129) (pc := 126) k_M_lay_126 rfl rfl (by decide) ?_
        | refine T_iinc (v := (nI 1)) (pc1 := 129) (pc := 126) k_M_lay_126 rfl rfl (by decide) ?_
        | refine T_goto (tgt := 95) (pc := 129) k_M_lay_129 rfl ?_
        | refine T_goto (tgt := 179) (pc := 132) k_M_lay_132 rfl ?_
        | refine T_iload_n (pc1 := 136) (pc := 135) k_M_lay_135 rfl rfl ?_
        | refine T_iconst (v := (nI 1)) (pc1 := 137) (pc := 136) k_M_lay_136 rfl (by decide) ?_
        | (with_reducible refine T_icmp_neN (tgt := 171) (pc1 := 140) (pc := 137) k_M_lay_137 (by decide) (by decide) (by omega) (by omega) (fun hc => ?_) (fun hc => ?_) <;> first | (exfalso; omega) | skip)
        | refine T_icmp_ne_t (tgt := 171) (pc := 137) k_M_lay_137 rfl (by decide) ?_
        | refine T_icmp_ne_f (tgt := 171) (pc1 := 140) (pc := 137) k_M_lay_137 rfl rfl (by decide) ?_
        | refine T_icmp_ne (tgt := 171) (pc1 := 140) (pc := 137) k_M_lay_137 rfl rfl (fun hc => ?_) (fun hc => ?_)
        | refine T_aload_n (pc1 := 141) (pc := 140) k_M_lay_140 rfl rfl ?_
        | refine T_aload_nN (pc1 := 141) (pc := 140) k_M_lay_140 rfl rfl ?_
        | refine T_getR (pc1 := 144) (pc := 141) k_M_lay_141 rfl f_M_76 rfl (by first | exact ga G (by decide) rfl | assumption) (by first | exact gr G (by decide) rfl | assumption) ?_
        | refine T_iload (pc1 := 146) (pc := 144) k_M_lay_144 rfl rfl ?_
        | refine T_aload_n (pc1 := 147) (pc := 146) k_M_lay_146 rfl rfl ?_
        | refine T_aload_nN (pc1 := 147) (pc := 146) k_M_lay_146 rfl rfl ?_
        | refine T_iload_n (pc1 := 148) (pc := 147) k_M_lay_147 rfl rfl ?_
        | refine T_iconst (v := (nI 0)) (pc1 := 149) (pc := 148) k_M_lay_148 rfl (by decide) ?_
        | (refine T_cV (As := [_, _]) (d1 := 1) (pc1 := 152) (pc := 149) k_M_lay_149 rfl (by decide) (Nat.le_of_ble_eq_true rfl) rfl o_M_bitIs l_M_124 rfl (by first | exact ga G (by decide) rfl | assumption) rfl (c_M_bitN G (by assumption) (by omega) (by omega) (by first | assumption | rfl) ?_) <;> try dsimp only [psh])
        | refine T_iastN (pc1 := 153) (pc := 152) k_M_lay_152 rfl (by first | exact ga G (by decide) rfl | assumption) (by omega) (by omega) ?_
        | refine T_aload_n (pc1 := 154) (pc := 153) k_M_lay_153 rfl rfl ?_
        | refine T_aload_nN (pc1 := 154) (pc := 153) k_M_lay_153 rfl rfl ?_
        | refine T_getR (pc1 := 157) (pc := 154) k_M_lay_154 rfl f_M_76 rfl (by first | exact ga G (by decide) rfl | assumption) (by first | exact gr G (by decide) rfl | assumption) ?_
        | refine T_iload (pc1 := 159) (pc := 157) k_M_lay_157 rfl rfl ?_
        | refine T_iconst (v := (nI 1)) (pc1 := 160) (pc := 159) k_M_lay_159 rfl (by decide) ?_
        | with_reducible refine T_iaddN (pc1 := 161) (pc := 160) k_M_lay_160 (by decide) ?_
        | refine T_iadd (pc1 := 161) (pc := 160) k_M_lay_160 rfl ?_
        | refine T_aload_n (pc1 := 162) (pc := 161) k_M_lay_161 rfl rfl ?_
        | refine T_aload_nN (pc1 := 162) (pc := 161) k_M_lay_161 rfl rfl ?_
        | refine T_iload_n (pc1 := 163) (pc := 162) k_M_lay_162 rfl rfl ?_
        | refine T_iconst (v := (nI 3)) (pc1 := 164) (pc := 163) k_M_lay_163 rfl (by decide) ?_
        | (refine T_cV (As := [_, _]) (d1 := 1) (pc1 := 167) (pc := 164) k_M_lay_164 rfl (by decide) (Nat.le_of_ble_eq_true rfl) rfl o_M_bitIs l_M_124 rfl (by first | exact ga G (by decide) rfl | assumption) rfl (c_M_bitN (N := N) G (by rw [pI_rw (by decide)]; exact hN) (by omega) (by omega) rfl ?_) <;> try dsimp only [psh])
        | refine T_iastN (pc1 := 168) (pc := 167) k_M_lay_167 rfl (by first | exact ga G (by decide) rfl | assumption) (by omega) (by omega) ?_
        | refine T_goto (tgt := 179) (pc := 168) k_M_lay_168 rfl ?_
        | refine T_aload_n (pc1 := 172) (pc := 171) k_M_lay_171 rfl rfl ?_
        | refine T_aload_nN (pc1 := 172) (pc := 171) k_M_lay_171 rfl rfl ?_
        | refine T_getR (pc1 := 175) (pc := 172) k_M_lay_172 rfl f_M_76 rfl (by first | exact ga G (by decide) rfl | assumption) (by first | exact gr G (by decide) rfl | assumption) ?_
        | refine T_iload (pc1 := 177) (pc := 175) k_M_lay_175 rfl rfl ?_
        | refine T_iload_n (pc1 := 178) (pc := 177) k_M_lay_177 rfl rfl ?_
        | refine T_iastN (pc1 := 179) (pc := 178) k_M_lay_178 rfl (by first | exact ga G (by decide) rfl | assumption) (by omega) (by omega) ?_
        | refine T_aload_n (pc1 := 180) (pc := 179) k_M_lay_179 rfl rfl ?_
        | refine T_aload_nN (pc1 := 180) (pc := 179) k_M_lay_179 rfl rfl ?_
        | refine T_iload_n (pc1 := 181) (pc := 180) k_M_lay_180 rfl rfl ?_
        | refine T_iload_n (pc1 := 182) (pc := 181) k_M_lay_181 rfl rfl ?_
        | (refine T_cV (As := [_, _]) (d1 := 1) (pc1 := 185) (pc := 182) k_M_lay_182 rfl (by decide) (Nat.le_of_ble_eq_true rfl) rfl o_M_holds l_M_303 rfl (by first | exact ga G (by decide) rfl | assumption) rfl (c_M_holds (Th := Th) G (by rw [pI_rw (by decide)]; exact hTh) (by omega) ?_) <;> try dsimp only [psh])
        | refine T_retI (pc := 185) k_M_lay_185 rfl (by first | rfl | decide | assumption) ?_)
      all_goals first | contradiction | exact kk _ _ (eqx_pI (eqx_pI eqx_rf _ (by decide)) _ (by decide)) (by rw [pI_self, pI_rw (by decide), hTh, k2]) (by rw [pI_rw (by decide), upI hHe, k3]; rfl) k1.symm
  · obtain ⟨k1, k2, k3⟩ := lay_bad (N := N) (So := So) (Si := Si) (Pl := Pl) (Th := Th) (He := He) hok
    rw [k1, k2, k3] at kk
    have kk := kk I _ eqx_rf hTh hHe rfl
    repeat' (first
      | refine T_iload_n (pc1 := 1) (pc := 0) k_M_lay_0 rfl rfl ?_
      | (with_reducible refine T_if_eqN (tgt := 34) (pc1 := 4) (pc := 1) k_M_lay_1 (by decide) (by decide) (by omega) (fun hc => ?_) (fun hc => ?_) <;> first | (exfalso; omega) | skip)
      | refine T_if_eq_t (tgt := 34) (pc := 1) k_M_lay_1 rfl (by decide) ?_
      | refine T_if_eq_f (tgt := 34) (pc1 := 4) (pc := 1) k_M_lay_1 rfl rfl (by decide) ?_
      | refine T_if_eq (tgt := 34) (pc1 := 4) (pc := 1) k_M_lay_1 rfl rfl (fun hc => ?_) (fun hc => ?_)
      | refine T_iload_n (pc1 := 5) (pc := 4) k_M_lay_4 rfl rfl ?_
      | refine T_iconst (v := (nI 1)) (pc1 := 6) (pc := 5) k_M_lay_5 rfl (by decide) ?_
      | (with_reducible refine T_icmp_neN (tgt := 17) (pc1 := 9) (pc := 6) k_M_lay_6 (by decide) (by decide) (by omega) (by omega) (fun hc => ?_) (fun hc => ?_) <;> first | (exfalso; omega) | skip)
      | refine T_icmp_ne_t (tgt := 17) (pc := 6) k_M_lay_6 rfl (by decide) ?_
      | refine T_icmp_ne_f (tgt := 17) (pc1 := 9) (pc := 6) k_M_lay_6 rfl rfl (by decide) ?_
      | refine T_icmp_ne (tgt := 17) (pc1 := 9) (pc := 6) k_M_lay_6 rfl rfl (fun hc => ?_) (fun hc => ?_)
      | refine T_aload_n (pc1 := 10) (pc := 9) k_M_lay_9 rfl rfl ?_
      | refine T_aload_nN (pc1 := 10) (pc := 9) k_M_lay_9 rfl rfl ?_
      | refine T_iload_n (pc1 := 11) (pc := 10) k_M_lay_10 rfl rfl ?_
      | (refine T_cV (As := [_]) (d1 := 2) (pc1 := 14) (pc := 11) k_M_lay_11 rfl (by decide) (Nat.le_of_ble_eq_true rfl) rfl o_M_isBit l_M_140 rfl (by first | exact ga G (by decide) rfl | assumption) rfl (c_M_isBit G hN hn h14 (fun hw => ?_) (fun hw => ?_)) <;> try dsimp only [psh])
      | (with_reducible refine T_if_neN (tgt := 34) (pc1 := 17) (pc := 14) k_M_lay_14 (by decide) (by decide) (by omega) (fun hc => ?_) (fun hc => ?_) <;> first | (exfalso; omega) | skip)
      | refine T_if_ne_t (tgt := 34) (pc := 14) k_M_lay_14 rfl (by decide) ?_
      | refine T_if_ne_f (tgt := 34) (pc1 := 17) (pc := 14) k_M_lay_14 rfl rfl (by decide) ?_
      | refine T_if_ne (tgt := 34) (pc1 := 17) (pc := 14) k_M_lay_14 rfl rfl (fun hc => ?_) (fun hc => ?_)
      | refine T_iload_n (pc1 := 18) (pc := 17) k_M_lay_17 rfl rfl ?_
      | refine T_iconst (v := (nI 2)) (pc1 := 19) (pc := 18) k_M_lay_18 rfl (by decide) ?_
      | (with_reducible refine T_icmp_neN (tgt := 29) (pc1 := 22) (pc := 19) k_M_lay_19 (by decide) (by decide) (by omega) (by omega) (fun hc => ?_) (fun hc => ?_) <;> first | (exfalso; omega) | skip)
      | refine T_icmp_ne_t (tgt := 29) (pc := 19) k_M_lay_19 rfl (by decide) ?_
      | refine T_icmp_ne_f (tgt := 29) (pc1 := 22) (pc := 19) k_M_lay_19 rfl rfl (by decide) ?_
      | refine T_icmp_ne (tgt := 29) (pc1 := 22) (pc := 19) k_M_lay_19 rfl rfl (fun hc => ?_) (fun hc => ?_)
      | refine T_iload_n (pc1 := 23) (pc := 22) k_M_lay_22 rfl rfl ?_
      | (refine T_cS (As := [_]) (d1 := 2) (pc1 := 26) (pc := 23) k_M_lay_23 rfl (by decide) (Nat.le_of_ble_eq_true rfl) rfl o_M_isSheet l_M_193 rfl (c_M_isSheet (fun hw => ?_) (fun hw => ?_)) <;> try dsimp only [psh])
      | (with_reducible refine T_if_neN (tgt := 34) (pc1 := 29) (pc := 26) k_M_lay_26 (by decide) (by decide) (by omega) (fun hc => ?_) (fun hc => ?_) <;> first | (exfalso; omega) | skip)
      | refine T_if_ne_t (tgt := 34) (pc := 26) k_M_lay_26 rfl (by decide) ?_
      | refine T_if_ne_f (tgt := 34) (pc1 := 29) (pc := 26) k_M_lay_26 rfl rfl (by decide) ?_
      | refine T_if_ne (tgt := 34) (pc1 := 29) (pc := 26) k_M_lay_26 rfl rfl (fun hc => ?_) (fun hc => ?_)
      | refine T_iload_n (pc1 := 30) (pc := 29) k_M_lay_29 rfl rfl ?_
      | refine T_iconst (v := (nI 3)) (pc1 := 31) (pc := 30) k_M_lay_30 rfl (by decide) ?_
      | (with_reducible refine T_icmp_neN (tgt := 38) (pc1 := 34) (pc := 31) k_M_lay_31 (by decide) (by decide) (by omega) (by omega) (fun hc => ?_) (fun hc => ?_) <;> first | (exfalso; omega) | skip)
      | refine T_icmp_ne_t (tgt := 38) (pc := 31) k_M_lay_31 rfl (by decide) ?_
      | refine T_icmp_ne_f (tgt := 38) (pc1 := 34) (pc := 31) k_M_lay_31 rfl rfl (by decide) ?_
      | refine T_icmp_ne (tgt := 38) (pc1 := 34) (pc := 31) k_M_lay_31 rfl rfl (fun hc => ?_) (fun hc => ?_)
      | refine T_iconst (v := (nI 1)) (pc1 := 35) (pc := 34) k_M_lay_34 rfl (by decide) ?_
      | refine T_goto (tgt := 39) (pc := 35) k_M_lay_35 rfl ?_
      | refine T_iconst (v := (nI 0)) (pc1 := 39) (pc := 38) k_M_lay_38 rfl (by decide) ?_
      | refine T_istore (pc1 := 41) (pc := 39) k_M_lay_39 rfl (Nat.le_of_ble_eq_true rfl) ?_
      | refine T_iload_n (pc1 := 42) (pc := 41) k_M_lay_41 rfl rfl ?_
      | (refine T_cS (As := [_]) (d1 := 2) (pc1 := 45) (pc := 42) k_M_lay_42 rfl (by decide) (Nat.le_of_ble_eq_true rfl) rfl o_M_isSlot l_M_300 rfl (c_M_isSlot (fun hw => ?_) (fun hw => ?_)) <;> try dsimp only [psh])
      | (with_reducible refine T_if_eqN (tgt := 53) (pc1 := 48) (pc := 45) k_M_lay_45 (by decide) (by decide) (by omega) (fun hc => ?_) (fun hc => ?_) <;> first | (exfalso; omega) | skip)
      | refine T_if_eq_t (tgt := 53) (pc := 45) k_M_lay_45 rfl (by decide) ?_
      | refine T_if_eq_f (tgt := 53) (pc1 := 48) (pc := 45) k_M_lay_45 rfl rfl (by decide) ?_
      | refine T_if_eq (tgt := 53) (pc1 := 48) (pc := 45) k_M_lay_45 rfl rfl (fun hc => ?_) (fun hc => ?_)
      | refine T_iload (pc1 := 50) (pc := 48) k_M_lay_48 rfl rfl ?_
      | (with_reducible refine T_if_neN (tgt := 56) (pc1 := 53) (pc := 50) k_M_lay_50 (by decide) (by decide) (by omega) (fun hc => ?_) (fun hc => ?_) <;> first | (exfalso; omega) | skip)
      | refine T_if_ne_t (tgt := 56) (pc := 50) k_M_lay_50 rfl (by decide) ?_
      | refine T_if_ne_f (tgt := 56) (pc1 := 53) (pc := 50) k_M_lay_50 rfl rfl (by decide) ?_
      | refine T_if_ne (tgt := 56) (pc1 := 53) (pc := 50) k_M_lay_50 rfl rfl (fun hc => ?_) (fun hc => ?_)
      | refine T_ldc (v := (-1000000001)) (pc1 := 55) (pc := 53) k_M_lay_53 rfl c_M_111 ?_
      | refine T_retI (pc := 55) k_M_lay_55 rfl (by first | rfl | decide | assumption) ?_)
    all_goals first | exact kk | (exfalso; apply hok; refine ⟨by assumption, ?_⟩; first | exact Or.inl (by assumption) | exact Or.inr (Or.inl ⟨Decidable.not_not.mp (by assumption), by assumption⟩) | exact Or.inr (Or.inr (Or.inl ⟨Decidable.not_not.mp (by assumption), by assumption⟩)) | exact Or.inr (Or.inr (Or.inr (Decidable.not_not.mp (by assumption)))))
end M19
