/-! The model: takes, barred, thinks, worth; what is told of a bit. -/
section M5
variable {g : Geo} {I : IM} {K : Option Value → Geo → IM → Prop}
theorem c_M_bitN {N : Row} {b k : Nat} {v : Int32} (G : GeoOK g) (hN : I 102 = N) (hb : b < 14) (hk : k < 6) (hv : bf N b k = v) (kk : K (some (.int v)) g I) : Cl 1 M_M_bitIs [.ref 101, .int (nI b), .int (nI k)] g I K := c_M_bitIs G hb hk (by rw [hN]; exact hv) kk
set_option maxHeartbeats 4000000 in
theorem c_M_takes {N : Row} {n tn b : Nat} (G : GeoOK g) (hN : I 102 = N) (ok : okL N n tn) (hb : b < n) (kk : ∀ J, eqx [112, 113] I J → K (some (.int (tkI N tn b))) g J) : Cl 4 M_M_takes [.ref 101, .int (nI b)] g I K := by
  show Rl 4 M_M_takes 0 [some (.ref 101), some (.int (nI b)), none, none] [] g I K
  have hn := ok.2.1
  obtain ⟨k, o, t, l, r, h0, hk, -, -, -, -, -, h3, -, -, h4, -⟩ := ok.2.2.2.2.1 b hb
  have etk : tkI N tn b = tkV k (pln N tn b) (nI r) (nI l) (N 3) := by
    unfold tkI
    rw [h0, h4, h3, nI_clamp (by omega)]
  rw [etk] at kk
  repeat' (first
    | refine T_aload_n (pc1 := 1) (pc := 0) k_M_takes_0 rfl rfl ?_
    | refine T_aload_nN (pc1 := 1) (pc := 0) k_M_takes_0 rfl rfl ?_
    | refine T_iload_n (pc1 := 2) (pc := 1) k_M_takes_1 rfl rfl ?_
    | (refine T_cV (As := [_]) (d1 := 3) (pc1 := 5) (pc := 2) k_M_takes_2 rfl (by decide) (Nat.le_of_ble_eq_true rfl) rfl o_M_plainly l_M_134 rfl (by first | exact ga G (by decide) rfl | assumption) rfl (c_M_plainly G hN ok hb (fun J hJ => ?_)) <;> try dsimp only [psh]))
  have hJN : J 102 = N := (hJ 102 (by decide)).trans hN
  have kk := kk J hJ
  obtain rfl | rfl | rfl | rfl | rfl | rfl : k = 0 ∨ k = 1 ∨ k = 2 ∨ k = 3 ∨ k = 4 ∨ k = 5 := by omega
  all_goals
    rcases ok.2.2.2.2.2.2.1 with hw | hw
    all_goals
      rw [hw] at kk
      repeat' (first
        | refine T_aload_n (pc1 := 1) (pc := 0) k_M_takes_0 rfl rfl ?_
        | refine T_aload_nN (pc1 := 1) (pc := 0) k_M_takes_0 rfl rfl ?_
        | refine T_iload_n (pc1 := 2) (pc := 1) k_M_takes_1 rfl rfl ?_
        | (refine T_cV (As := [_]) (d1 := 3) (pc1 := 5) (pc := 2) k_M_takes_2 rfl (by decide) (Nat.le_of_ble_eq_true rfl) rfl o_M_plainly l_M_134 rfl (by first | exact ga G (by decide) rfl | assumption) rfl (c_M_plainly G hN ok hb (fun J hJ => ?_)) <;> try dsimp only [psh])
        | refine T_istore_n (pc1 := 6) (pc := 5) k_M_takes_5 rfl (Nat.le_of_ble_eq_true rfl) ?_
        | refine T_iconst (v := (nI 1)) (pc1 := 7) (pc := 6) k_M_takes_6 rfl (by decide) ?_
        | refine T_iload_n (pc1 := 8) (pc := 7) k_M_takes_7 rfl rfl ?_
        | refine T_aload_n (pc1 := 9) (pc := 8) k_M_takes_8 rfl rfl ?_
        | refine T_aload_nN (pc1 := 9) (pc := 8) k_M_takes_8 rfl rfl ?_
        | refine T_iload_n (pc1 := 10) (pc := 9) k_M_takes_9 rfl rfl ?_
        | refine T_iconst (v := (nI 4)) (pc1 := 11) (pc := 10) k_M_takes_10 rfl (by decide) ?_
        | (refine T_cV (As := [_, _]) (d1 := 1) (pc1 := 14) (pc := 11) k_M_takes_11 rfl (by decide) (Nat.le_of_ble_eq_true rfl) rfl o_M_bitIs l_M_124 rfl (by first | exact ga G (by decide) rfl | assumption) rfl (c_M_bitN G (by assumption) (by omega) (by omega) (by first | assumption | rfl) ?_) <;> try dsimp only [psh])
        | with_reducible refine T_isubN (pc1 := 15) (pc := 14) k_M_takes_14 (by decide) (by omega) ?_
        | refine T_isub (pc1 := 15) (pc := 14) k_M_takes_14 rfl ?_
        | refine T_mmax (pc1 := 18) (pc := 15) k_M_takes_15 rfl l_M_88 (by decide) (Nat.le_of_ble_eq_true rfl) ?_
        | refine T_istore_n (pc1 := 19) (pc := 18) k_M_takes_18 rfl (Nat.le_of_ble_eq_true rfl) ?_
        | refine T_aload_n (pc1 := 20) (pc := 19) k_M_takes_19 rfl rfl ?_
        | refine T_aload_nN (pc1 := 20) (pc := 19) k_M_takes_19 rfl rfl ?_
        | refine T_iload_n (pc1 := 21) (pc := 20) k_M_takes_20 rfl rfl ?_
        | refine T_iconst (v := (nI 0)) (pc1 := 22) (pc := 21) k_M_takes_21 rfl (by decide) ?_
        | (refine T_cV (As := [_, _]) (d1 := 1) (pc1 := 25) (pc := 22) k_M_takes_22 rfl (by decide) (Nat.le_of_ble_eq_true rfl) rfl o_M_bitIs l_M_124 rfl (by first | exact ga G (by decide) rfl | assumption) rfl (c_M_bitN G (by assumption) (by omega) (by omega) (by first | assumption | rfl) ?_) <;> try dsimp only [psh])
        | (with_reducible refine swN_M_takes_25 (by omega) (fun hc => ?_) (fun hc => ?_) (fun hc => ?_) (fun hc => ?_) (fun hc => ?_) (fun hc => ?_) <;> first | (exfalso; omega) | skip)
        | refine sw_M_takes_25 (fun hc => ?_) (fun hc => ?_) (fun hc => ?_) (fun hc => ?_) (fun hc => ?_) (fun hc => ?_)
        | refine T_iload_n (pc1 := 61) (pc := 60) k_M_takes_60 rfl rfl ?_
        | refine T_retI (pc := 61) k_M_takes_61 rfl (by first | rfl | decide | assumption) ?_
        | refine T_iconst (v := (nI 1)) (pc1 := 63) (pc := 62) k_M_takes_62 rfl (by decide) ?_
        | refine T_iload_n (pc1 := 64) (pc := 63) k_M_takes_63 rfl rfl ?_
        | refine T_iconst (v := (nI 2)) (pc1 := 65) (pc := 64) k_M_takes_64 rfl (by decide) ?_
        | refine T_idiv (pc1 := 66) (pc := 65) k_M_takes_65 rfl (by first | assumption | decide) ?_
        | refine T_mmax (pc1 := 69) (pc := 66) k_M_takes_66 rfl l_M_88 (by decide) (Nat.le_of_ble_eq_true rfl) ?_
        | refine T_retI (pc := 69) k_M_takes_69 rfl (by first | rfl | decide | assumption) ?_
        | refine T_aload_n (pc1 := 71) (pc := 70) k_M_takes_70 rfl rfl ?_
        | refine T_aload_nN (pc1 := 71) (pc := 70) k_M_takes_70 rfl rfl ?_
        | refine T_getR (pc1 := 74) (pc := 71) k_M_takes_71 rfl f_M_9 rfl (by first | exact ga G (by decide) rfl | assumption) (by first | exact gr G (by decide) rfl | assumption) ?_
        | refine T_iconst (v := (nI 3)) (pc1 := 75) (pc := 74) k_M_takes_74 rfl (by decide) ?_
        | refine T_ialdN (pc1 := 76) (pc := 75) k_M_takes_75 rfl (by first | exact ga G (by decide) rfl | assumption) (by omega) (by omega) (by first | assumption | (simp (disch := omega) only [pI_eq, pI_row, pI_col, va_up_self, va_up_ne, ne_eq, not_false_eq_true, hJN, hw] <;> rfl) | rfl) ?_
        | refine T_iald (pc1 := 76) (pc := 75) k_M_takes_75 rfl (by first | exact ga G (by decide) rfl | assumption) (by assumption) ?_
        | refine T_iconst (v := (nI 1)) (pc1 := 77) (pc := 76) k_M_takes_76 rfl (by decide) ?_
        | (with_reducible refine T_icmp_neN (tgt := 86) (pc1 := 80) (pc := 77) k_M_takes_77 (by decide) (by decide) (by omega) (by omega) (fun hc => ?_) (fun hc => ?_) <;> first | (exfalso; omega) | skip)
        | refine T_icmp_ne_t (tgt := 86) (pc := 77) k_M_takes_77 rfl (by decide) ?_
        | refine T_icmp_ne_f (tgt := 86) (pc1 := 80) (pc := 77) k_M_takes_77 rfl rfl (by decide) ?_
        | refine T_icmp_ne (tgt := 86) (pc1 := 80) (pc := 77) k_M_takes_77 rfl rfl (fun hc => ?_) (fun hc => ?_)
        | refine T_iconst (v := (nI 2)) (pc1 := 81) (pc := 80) k_M_takes_80 rfl (by decide) ?_
        | refine T_iload_n (pc1 := 82) (pc := 81) k_M_takes_81 rfl rfl ?_
        | with_reducible refine T_imulN (pc1 := 83) (pc := 82) k_M_takes_82 (by decide) ?_
        | refine T_imul (pc1 := 83) (pc := 82) k_M_takes_82 rfl ?_
        | refine T_goto (tgt := 87) (pc := 83) k_M_takes_83 rfl ?_
        | refine T_iload_n (pc1 := 87) (pc := 86) k_M_takes_86 rfl rfl ?_
        | refine T_retI (pc := 87) k_M_takes_87 rfl (by first | rfl | decide | assumption) ?_
        | refine T_aload_n (pc1 := 89) (pc := 88) k_M_takes_88 rfl rfl ?_
        | refine T_aload_nN (pc1 := 89) (pc := 88) k_M_takes_88 rfl rfl ?_
        | refine T_iload_n (pc1 := 90) (pc := 89) k_M_takes_89 rfl rfl ?_
        | refine T_iconst (v := (nI 3)) (pc1 := 91) (pc := 90) k_M_takes_90 rfl (by decide) ?_
        | (refine T_cV (As := [_, _]) (d1 := 1) (pc1 := 94) (pc := 91) k_M_takes_91 rfl (by decide) (Nat.le_of_ble_eq_true rfl) rfl o_M_bitIs l_M_124 rfl (by first | exact ga G (by decide) rfl | assumption) rfl (c_M_bitN G (by assumption) (by omega) (by omega) (by first | assumption | rfl) ?_) <;> try dsimp only [psh])
        | refine T_retI (pc := 94) k_M_takes_94 rfl (by first | rfl | decide | assumption) ?_
        | refine T_iload_n (pc1 := 96) (pc := 95) k_M_takes_95 rfl rfl ?_
        | refine T_retI (pc := 96) k_M_takes_96 rfl (by first | rfl | decide | assumption) ?_)
      exact kk
theorem c_M_isBarred {N : Row} {n tn b : Nat} (G : GeoOK g) (hN : I 102 = N) (ok : okL N n tn) (hb : b < n) (kt : brd N b = true → K (some (.int (nI 1))) g I) (kf : brd N b = false → K (some (.int (nI 0))) g I) : Cl 3 M_M_isBarred [.ref 101, .int (nI b)] g I K := by
  show Rl 3 M_M_isBarred 0 [some (.ref 101), some (.int (nI b)), none] [] g I K
  have hn := ok.2.1
  obtain ⟨k, o, t, l, r, h0, hk, -, -, -, -, -, h3, hl1, hl2, h4, -⟩ := ok.2.2.2.2.1 b hb
  have e : brd N b = ((k == 4 && N 3 == nI 1) || ((k == 1 || k == 3) && decide (90 < l))) := by
    unfold brd
    rw [h0, h3, nI_clamp (by omega), nI_clamp (by omega)]
  rw [e] at kt kf
  have u : und k 1 = (k == 1 || k == 3) := by
    unfold und
    rw [Bool.beq_comm (a := 1)]
    simp
  rcases ok.2.2.2.2.2.2.1 with hw | hw
  all_goals
    rw [hw] at kt kf
    repeat' (first
      | refine T_aload_n (pc1 := 1) (pc := 0) k_M_isBarred_0 rfl rfl ?_
      | refine T_aload_nN (pc1 := 1) (pc := 0) k_M_isBarred_0 rfl rfl ?_
      | refine T_iload_n (pc1 := 2) (pc := 1) k_M_isBarred_1 rfl rfl ?_
      | refine T_iconst (v := (nI 0)) (pc1 := 3) (pc := 2) k_M_isBarred_2 rfl (by decide) ?_
      | (refine T_cV (As := [_, _]) (d1 := 1) (pc1 := 6) (pc := 3) k_M_isBarred_3 rfl (by decide) (Nat.le_of_ble_eq_true rfl) rfl o_M_bitIs l_M_124 rfl (by first | exact ga G (by decide) rfl | assumption) rfl (c_M_bitN G (by assumption) (by omega) (by omega) (by first | assumption | rfl) ?_) <;> try dsimp only [psh])
      | refine T_istore_n (pc1 := 7) (pc := 6) k_M_isBarred_6 rfl (Nat.le_of_ble_eq_true rfl) ?_
      | refine T_iload_n (pc1 := 8) (pc := 7) k_M_isBarred_7 rfl rfl ?_
      | refine T_iconst (v := (nI 4)) (pc1 := 9) (pc := 8) k_M_isBarred_8 rfl (by decide) ?_
      | (with_reducible refine T_icmp_neN (tgt := 22) (pc1 := 12) (pc := 9) k_M_isBarred_9 (by decide) (by decide) (by omega) (by omega) (fun hc => ?_) (fun hc => ?_) <;> first | (exfalso; omega) | skip)
      | refine T_icmp_ne_t (tgt := 22) (pc := 9) k_M_isBarred_9 rfl (by decide) ?_
      | refine T_icmp_ne_f (tgt := 22) (pc1 := 12) (pc := 9) k_M_isBarred_9 rfl rfl (by decide) ?_
      | refine T_icmp_ne (tgt := 22) (pc1 := 12) (pc := 9) k_M_isBarred_9 rfl rfl (fun hc => ?_) (fun hc => ?_)
      | refine T_aload_n (pc1 := 13) (pc := 12) k_M_isBarred_12 rfl rfl ?_
      | refine T_aload_nN (pc1 := 13) (pc := 12) k_M_isBarred_12 rfl rfl ?_
      | refine T_getR (pc1 := 16) (pc := 13) k_M_isBarred_13 rfl f_M_9 rfl (by first | exact ga G (by decide) rfl | assumption) (by first | exact gr G (by decide) rfl | assumption) ?_
      | refine T_iconst (v := (nI 3)) (pc1 := 17) (pc := 16) k_M_isBarred_16 rfl (by decide) ?_
      | refine T_ialdN (pc1 := 18) (pc := 17) k_M_isBarred_17 rfl (by first | exact ga G (by decide) rfl | assumption) (by omega) (by omega) (by first | assumption | (simp (disch := omega) only [pI_eq, pI_row, pI_col, va_up_self, va_up_ne, ne_eq, not_false_eq_true, hN, hw] <;> rfl) | rfl) ?_
      | refine T_iald (pc1 := 18) (pc := 17) k_M_isBarred_17 rfl (by first | exact ga G (by decide) rfl | assumption) (by assumption) ?_
      | refine T_iconst (v := (nI 1)) (pc1 := 19) (pc := 18) k_M_isBarred_18 rfl (by decide) ?_
      | (with_reducible refine T_icmp_eqN (tgt := 41) (pc1 := 22) (pc := 19) k_M_isBarred_19 (by decide) (by decide) (by omega) (by omega) (fun hc => ?_) (fun hc => ?_) <;> first | (exfalso; omega) | skip)
      | refine T_icmp_eq_t (tgt := 41) (pc := 19) k_M_isBarred_19 rfl (by decide) ?_
      | refine T_icmp_eq_f (tgt := 41) (pc1 := 22) (pc := 19) k_M_isBarred_19 rfl rfl (by decide) ?_
      | refine T_icmp_eq (tgt := 41) (pc1 := 22) (pc := 19) k_M_isBarred_19 rfl rfl (fun hc => ?_) (fun hc => ?_)
      | refine T_iload_n (pc1 := 23) (pc := 22) k_M_isBarred_22 rfl rfl ?_
      | refine T_iconst (v := (nI 1)) (pc1 := 24) (pc := 23) k_M_isBarred_23 rfl (by decide) ?_
      | (refine T_cS (As := [_, _]) (d1 := 2) (pc1 := 27) (pc := 24) k_M_isBarred_24 rfl (by decide) (Nat.le_of_ble_eq_true rfl) rfl o_M_isUnder l_M_137 rfl (c_M_isUnder (by omega) (by omega) (fun hu => ?_) (fun hu => ?_)) <;> try dsimp only [psh])
      | (with_reducible refine T_if_eqN (tgt := 45) (pc1 := 30) (pc := 27) k_M_isBarred_27 (by decide) (by decide) (by omega) (fun hc => ?_) (fun hc => ?_) <;> first | (exfalso; omega) | skip)
      | refine T_if_eq_t (tgt := 45) (pc := 27) k_M_isBarred_27 rfl (by decide) ?_
      | refine T_if_eq_f (tgt := 45) (pc1 := 30) (pc := 27) k_M_isBarred_27 rfl rfl (by decide) ?_
      | refine T_if_eq (tgt := 45) (pc1 := 30) (pc := 27) k_M_isBarred_27 rfl rfl (fun hc => ?_) (fun hc => ?_)
      | refine T_aload_n (pc1 := 31) (pc := 30) k_M_isBarred_30 rfl rfl ?_
      | refine T_aload_nN (pc1 := 31) (pc := 30) k_M_isBarred_30 rfl rfl ?_
      | refine T_iload_n (pc1 := 32) (pc := 31) k_M_isBarred_31 rfl rfl ?_
      | refine T_iconst (v := (nI 3)) (pc1 := 33) (pc := 32) k_M_isBarred_32 rfl (by decide) ?_
      | (refine T_cV (As := [_, _]) (d1 := 1) (pc1 := 36) (pc := 33) k_M_isBarred_33 rfl (by decide) (Nat.le_of_ble_eq_true rfl) rfl o_M_bitIs l_M_124 rfl (by first | exact ga G (by decide) rfl | assumption) rfl (c_M_bitN G (by assumption) (by omega) (by omega) (by first | assumption | rfl) ?_) <;> try dsimp only [psh])
      | refine T_bipush (v := (nI 90)) (pc1 := 38) (pc := 36) k_M_isBarred_36 rfl (by decide) ?_
      | (with_reducible refine T_icmp_leN (tgt := 45) (pc1 := 41) (pc := 38) k_M_isBarred_38 (by decide) (by decide) (by omega) (by omega) (fun hc => ?_) (fun hc => ?_) <;> first | (exfalso; omega) | skip)
      | refine T_icmp_le_t (tgt := 45) (pc := 38) k_M_isBarred_38 rfl (by decide) ?_
      | refine T_icmp_le_f (tgt := 45) (pc1 := 41) (pc := 38) k_M_isBarred_38 rfl rfl (by decide) ?_
      | refine T_icmp_le (tgt := 45) (pc1 := 41) (pc := 38) k_M_isBarred_38 rfl rfl (fun hc => ?_) (fun hc => ?_)
      | refine T_iconst (v := (nI 1)) (pc1 := 42) (pc := 41) k_M_isBarred_41 rfl (by decide) ?_
      | refine T_goto (tgt := 46) (pc := 42) k_M_isBarred_42 rfl ?_
      | refine T_iconst (v := (nI 0)) (pc1 := 46) (pc := 45) k_M_isBarred_45 rfl (by decide) ?_
      | refine T_retI (pc := 46) k_M_isBarred_46 rfl (by first | rfl | decide | assumption) ?_)
    all_goals first
      | exact kt (by simp_all <;> decide)
      | exact kf (by simp_all <;> decide)
theorem c_M_worth {k : Nat} {l : Int32} (hk : k < 6) (kk : K (some (.int (wthV k l))) g I) : Cl 1 M_M_worth [.int (nI k), .int l] g I K := by
  show Rl 1 M_M_worth 0 [some (.int (nI k)), some (.int l)] [] g I K
  obtain rfl | rfl | rfl | rfl | rfl | rfl : k = 0 ∨ k = 1 ∨ k = 2 ∨ k = 3 ∨ k = 4 ∨ k = 5 := by omega
  all_goals
    repeat' (first
      | refine T_iload_n (pc1 := 1) (pc := 0) k_M_worth_0 rfl rfl ?_
      | (with_reducible refine swN_M_worth_1 (by omega) (fun hc => ?_) (fun hc => ?_) (fun hc => ?_) (fun hc => ?_) (fun hc => ?_) (fun hc => ?_) <;> first | (exfalso; omega) | skip)
      | refine sw_M_worth_1 (fun hc => ?_) (fun hc => ?_) (fun hc => ?_) (fun hc => ?_) (fun hc => ?_) (fun hc => ?_)
      | refine T_iload_n (pc1 := 37) (pc := 36) k_M_worth_36 rfl rfl ?_
      | refine T_iconst (v := (nI 4)) (pc1 := 38) (pc := 37) k_M_worth_37 rfl (by decide) ?_
      | with_reducible refine T_iaddN (pc1 := 39) (pc := 38) k_M_worth_38 (by decide) ?_
      | refine T_iadd (pc1 := 39) (pc := 38) k_M_worth_38 rfl ?_
      | refine T_retI (pc := 39) k_M_worth_39 rfl (by first | rfl | decide | assumption) ?_
      | refine T_iconst (v := (nI 2)) (pc1 := 41) (pc := 40) k_M_worth_40 rfl (by decide) ?_
      | refine T_iload_n (pc1 := 42) (pc := 41) k_M_worth_41 rfl rfl ?_
      | refine T_iconst (v := (nI 4)) (pc1 := 43) (pc := 42) k_M_worth_42 rfl (by decide) ?_
      | with_reducible refine T_iaddN (pc1 := 44) (pc := 43) k_M_worth_43 (by decide) ?_
      | refine T_iadd (pc1 := 44) (pc := 43) k_M_worth_43 rfl ?_
      | with_reducible refine T_imulN (pc1 := 45) (pc := 44) k_M_worth_44 (by decide) ?_
      | refine T_imul (pc1 := 45) (pc := 44) k_M_worth_44 rfl ?_
      | refine T_retI (pc := 45) k_M_worth_45 rfl (by first | rfl | decide | assumption) ?_
      | refine T_bipush (v := (nI 99)) (pc1 := 48) (pc := 46) k_M_worth_46 rfl (by decide) ?_
      | refine T_iload_n (pc1 := 49) (pc := 48) k_M_worth_48 rfl rfl ?_
      | with_reducible refine T_isubN (pc1 := 50) (pc := 49) k_M_worth_49 (by decide) (by omega) ?_
      | refine T_isub (pc1 := 50) (pc := 49) k_M_worth_49 rfl ?_
      | refine T_retI (pc := 50) k_M_worth_50 rfl (by first | rfl | decide | assumption) ?_
      | refine T_bipush (v := (nI 93)) (pc1 := 53) (pc := 51) k_M_worth_51 rfl (by decide) ?_
      | refine T_iload_n (pc1 := 54) (pc := 53) k_M_worth_53 rfl rfl ?_
      | with_reducible refine T_isubN (pc1 := 55) (pc := 54) k_M_worth_54 (by decide) (by omega) ?_
      | refine T_isub (pc1 := 55) (pc := 54) k_M_worth_54 rfl ?_
      | refine T_retI (pc := 55) k_M_worth_55 rfl (by first | rfl | decide | assumption) ?_
      | refine T_bipush (v := (nI 60)) (pc1 := 58) (pc := 56) k_M_worth_56 rfl (by decide) ?_
      | refine T_retI (pc := 58) k_M_worth_58 rfl (by first | rfl | decide | assumption) ?_
      | refine T_iload_n (pc1 := 60) (pc := 59) k_M_worth_59 rfl rfl ?_
      | refine T_retI (pc := 60) k_M_worth_60 rfl (by first | rfl | decide | assumption) ?_)
    exact kk
set_option maxHeartbeats 4000000 in
theorem c_M_thinks {N : Row} {n tn b : Nat} (G : GeoOK g) (hN : I 102 = N) (ok : okL N n tn) (hb : b < n) (kk : ∀ J, eqx [112, 113] I J → K (some (.int (thI N tn b))) g J) : Cl 3 M_M_thinks [.ref 101, .int (nI b)] g I K := by
  show Rl 3 M_M_thinks 0 [some (.ref 101), some (.int (nI b)), none, none] [] g I K
  obtain ⟨h5, hn, h6, h14, -⟩ := id ok
  obtain ⟨k, o, t, l, r, h0, hk, -, -, -, -, -, h3, hl1, hl2, h4, hr, hs⟩ := ok.2.2.2.2.1 b hb
  unfold thI at kk
  cases htx : txt N 1 tn with
  | none =>
    have hv : opt1 (txt N 1 tn) = -1 := by rw [htx]; rfl
    rw [htx] at kk
    dsimp only at kk
    repeat' (first
      | refine T_aload_n (pc1 := 1) (pc := 0) k_M_thinks_0 rfl rfl ?_
      | refine T_aload_nN (pc1 := 1) (pc := 0) k_M_thinks_0 rfl rfl ?_
      | refine T_iload_n (pc1 := 2) (pc := 1) k_M_thinks_1 rfl rfl ?_
      | refine T_iconst (v := (nI 5)) (pc1 := 3) (pc := 2) k_M_thinks_2 rfl (by decide) ?_
      | (refine T_cV (As := [_, _]) (d1 := 1) (pc1 := 6) (pc := 3) k_M_thinks_3 rfl (by decide) (Nat.le_of_ble_eq_true rfl) rfl o_M_bitIs l_M_124 rfl (by first | exact ga G (by decide) rfl | assumption) rfl (c_M_bitN G (by assumption) (by omega) (by omega) (by first | assumption | rfl) ?_) <;> try dsimp only [psh])
      | refine T_istore_n (pc1 := 7) (pc := 6) k_M_thinks_6 rfl (Nat.le_of_ble_eq_true rfl) ?_
      | refine T_aload_n (pc1 := 8) (pc := 7) k_M_thinks_7 rfl rfl ?_
      | refine T_aload_nN (pc1 := 8) (pc := 7) k_M_thinks_7 rfl rfl ?_
      | refine T_iconst (v := (nI 1)) (pc1 := 9) (pc := 8) k_M_thinks_8 rfl (by decide) ?_
      | (refine T_cV (As := [_]) (d1 := 1) (pc1 := 12) (pc := 9) k_M_thinks_9 rfl (by decide) (Nat.le_of_ble_eq_true rfl) rfl o_M_counting l_M_121 rfl (by first | exact ga G (by decide) rfl | assumption) rfl (c_M_counting G (by assumption) (by assumption) (by assumption) (by assumption) ?_) <;> try dsimp only [psh])
      | refine T_istore_n (pc1 := 13) (pc := 12) k_M_thinks_12 rfl (Nat.le_of_ble_eq_true rfl) ?_
      | refine T_iload_n (pc1 := 14) (pc := 13) k_M_thinks_13 rfl rfl ?_
      | (with_reducible refine T_if_geN (tgt := 41) (pc1 := 17) (pc := 14) k_M_thinks_14 (by decide) (by decide) (by omega) ?_ <;> first | (exfalso; omega) | skip)
      | refine T_if_ge_t (tgt := 41) (pc := 14) k_M_thinks_14 rfl (by decide) ?_
      | refine T_if_ge_f (tgt := 41) (pc1 := 17) (pc := 14) k_M_thinks_14 rfl rfl (by decide) ?_
      | refine T_if_ge (tgt := 41) (pc1 := 17) (pc := 14) k_M_thinks_14 rfl rfl (fun hc => ?_) (fun hc => ?_)
      | refine T_iload_n (pc1 := 18) (pc := 17) k_M_thinks_17 rfl rfl ?_
      | refine T_ldc (v := (-1000000005)) (pc1 := 20) (pc := 18) k_M_thinks_18 rfl c_M_103 ?_
      | (with_reducible refine T_icmp_neN (tgt := 32) (pc1 := 23) (pc := 20) k_M_thinks_20 (by decide) (by decide) (by omega) (by omega) (fun hc => ?_) (fun hc => ?_) <;> first | (exfalso; omega) | skip)
      | refine T_icmp_ne_t (tgt := 32) (pc := 20) k_M_thinks_20 rfl (by decide) ?_
      | refine T_icmp_ne_f (tgt := 32) (pc1 := 23) (pc := 20) k_M_thinks_20 rfl rfl (by decide) ?_
      | refine T_icmp_ne (tgt := 32) (pc1 := 23) (pc := 20) k_M_thinks_20 rfl rfl (fun hc => ?_) (fun hc => ?_)
      | refine T_aload_n (pc1 := 24) (pc := 23) k_M_thinks_23 rfl rfl ?_
      | refine T_aload_nN (pc1 := 24) (pc := 23) k_M_thinks_23 rfl rfl ?_
      | refine T_getR (pc1 := 27) (pc := 24) k_M_thinks_24 rfl f_M_9 rfl (by first | exact ga G (by decide) rfl | assumption) (by first | exact gr G (by decide) rfl | assumption) ?_
      | refine T_iconst (v := (nI 4)) (pc1 := 28) (pc := 27) k_M_thinks_27 rfl (by decide) ?_
      | refine T_ialdN (pc1 := 29) (pc := 28) k_M_thinks_28 rfl (by first | exact ga G (by decide) rfl | assumption) (by omega) (by omega) (by first | assumption | (simp (disch := omega) only [pI_eq, pI_row, pI_col, va_up_self, va_up_ne, ne_eq, not_false_eq_true, hN] <;> rfl) | rfl) ?_
      | refine T_iald (pc1 := 29) (pc := 28) k_M_thinks_28 rfl (by first | exact ga G (by decide) rfl | assumption) (by assumption) ?_
      | refine T_goto (tgt := 40) (pc := 29) k_M_thinks_29 rfl ?_
      | refine T_iload_n (pc1 := 33) (pc := 32) k_M_thinks_32 rfl rfl ?_
      | refine T_iconst (v := (nI 1)) (pc1 := 34) (pc := 33) k_M_thinks_33 rfl (by decide) ?_
      | refine T_sipush (v := (nI 999)) (pc1 := 37) (pc := 34) k_M_thinks_34 rfl (by decide) ?_
      | (refine T_cS (As := [_, _, _]) (d1 := 1) (pc1 := 40) (pc := 37) k_M_thinks_37 rfl (by decide) (Nat.le_of_ble_eq_true rfl) rfl o_M_between l_M_130 rfl (c_M_between ?_) <;> try dsimp only [psh])
      | refine T_retI (pc := 40) k_M_thinks_40 rfl (by first | rfl | decide | assumption) ?_
      | refine T_aload_n (pc1 := 42) (pc := 41) k_M_thinks_41 rfl rfl ?_
      | refine T_aload_nN (pc1 := 42) (pc := 41) k_M_thinks_41 rfl rfl ?_
      | refine T_getR (pc1 := 45) (pc := 42) k_M_thinks_42 rfl f_M_55 rfl (by first | exact ga G (by decide) rfl | assumption) (by first | exact gr G (by decide) rfl | assumption) ?_
      | refine T_iconst (v := (nI 0)) (pc1 := 46) (pc := 45) k_M_thinks_45 rfl (by decide) ?_
      | refine T_iload_n (pc1 := 47) (pc := 46) k_M_thinks_46 rfl rfl ?_
      | refine T_ldc (v := (-1000000005)) (pc1 := 49) (pc := 47) k_M_thinks_47 rfl c_M_103 ?_
      | (with_reducible refine T_icmp_neN (tgt := 56) (pc1 := 52) (pc := 49) k_M_thinks_49 (by decide) (by decide) (by omega) (by omega) (fun hc => ?_) (fun hc => ?_) <;> first | (exfalso; omega) | skip)
      | refine T_icmp_ne_t (tgt := 56) (pc := 49) k_M_thinks_49 rfl (by decide) ?_
      | refine T_icmp_ne_f (tgt := 56) (pc1 := 52) (pc := 49) k_M_thinks_49 rfl rfl (by decide) ?_
      | refine T_icmp_ne (tgt := 56) (pc1 := 52) (pc := 49) k_M_thinks_49 rfl rfl (fun hc => ?_) (fun hc => ?_)
      | refine T_iconst (v := (nI 0)) (pc1 := 53) (pc := 52) k_M_thinks_52 rfl (by decide) ?_
      | refine T_goto (tgt := 57) (pc := 53) k_M_thinks_53 rfl ?_
      | refine T_iload_n (pc1 := 57) (pc := 56) k_M_thinks_56 rfl rfl ?_
      | refine T_iastN (pc1 := 58) (pc := 57) k_M_thinks_57 rfl (by first | exact ga G (by decide) rfl | assumption) (by omega) (by omega) ?_
      | refine T_aload_n (pc1 := 59) (pc := 58) k_M_thinks_58 rfl rfl ?_
      | refine T_aload_nN (pc1 := 59) (pc := 58) k_M_thinks_58 rfl rfl ?_
      | refine T_getR (pc1 := 62) (pc := 59) k_M_thinks_59 rfl f_M_55 rfl (by first | exact ga G (by decide) rfl | assumption) (by first | exact gr G (by decide) rfl | assumption) ?_
      | refine T_iconst (v := (nI 1)) (pc1 := 63) (pc := 62) k_M_thinks_62 rfl (by decide) ?_
      | refine T_aload_n (pc1 := 64) (pc := 63) k_M_thinks_63 rfl rfl ?_
      | refine T_aload_nN (pc1 := 64) (pc := 63) k_M_thinks_63 rfl rfl ?_
      | refine T_getR (pc1 := 67) (pc := 64) k_M_thinks_64 rfl f_M_9 rfl (by first | exact ga G (by decide) rfl | assumption) (by first | exact gr G (by decide) rfl | assumption) ?_
      | refine T_iconst (v := (nI 4)) (pc1 := 68) (pc := 67) k_M_thinks_67 rfl (by decide) ?_
      | refine T_ialdN (pc1 := 69) (pc := 68) k_M_thinks_68 rfl (by first | exact ga G (by decide) rfl | assumption) (by omega) (by omega) (by first | assumption | (simp (disch := omega) only [pI_eq, pI_row, pI_col, va_up_self, va_up_ne, ne_eq, not_false_eq_true, hN] <;> rfl) | rfl) ?_
      | refine T_iald (pc1 := 69) (pc := 68) k_M_thinks_68 rfl (by first | exact ga G (by decide) rfl | assumption) (by assumption) ?_
      | refine T_iastN (pc1 := 70) (pc := 69) k_M_thinks_69 rfl (by first | exact ga G (by decide) rfl | assumption) (by omega) (by omega) ?_
      | refine T_aload_n (pc1 := 71) (pc := 70) k_M_thinks_70 rfl rfl ?_
      | refine T_aload_nN (pc1 := 71) (pc := 70) k_M_thinks_70 rfl rfl ?_
      | refine T_getR (pc1 := 74) (pc := 71) k_M_thinks_71 rfl f_M_55 rfl (by first | exact ga G (by decide) rfl | assumption) (by first | exact gr G (by decide) rfl | assumption) ?_
      | refine T_iconst (v := (nI 2)) (pc1 := 75) (pc := 74) k_M_thinks_74 rfl (by decide) ?_
      | refine T_aload_n (pc1 := 76) (pc := 75) k_M_thinks_75 rfl rfl ?_
      | refine T_aload_nN (pc1 := 76) (pc := 75) k_M_thinks_75 rfl rfl ?_
      | refine T_iload_n (pc1 := 77) (pc := 76) k_M_thinks_76 rfl rfl ?_
      | refine T_iconst (v := (nI 0)) (pc1 := 78) (pc := 77) k_M_thinks_77 rfl (by decide) ?_
      | (refine T_cV (As := [_, _]) (d1 := 1) (pc1 := 81) (pc := 78) k_M_thinks_78 rfl (by decide) (Nat.le_of_ble_eq_true rfl) rfl o_M_bitIs l_M_124 rfl (by first | exact ga G (by decide) rfl | assumption) rfl (c_M_bitN G (by assumption) (by omega) (by omega) (by first | assumption | rfl) ?_) <;> try dsimp only [psh])
      | refine T_iastN (pc1 := 82) (pc := 81) k_M_thinks_81 rfl (by first | exact ga G (by decide) rfl | assumption) (by omega) (by omega) ?_
      | refine T_aload_n (pc1 := 83) (pc := 82) k_M_thinks_82 rfl rfl ?_
      | refine T_aload_nN (pc1 := 83) (pc := 82) k_M_thinks_82 rfl rfl ?_
      | refine T_iload_n (pc1 := 84) (pc := 83) k_M_thinks_83 rfl rfl ?_
      | refine T_iconst (v := (nI 1)) (pc1 := 88) (pc := 87) k_M_thinks_87 rfl (by decide) ?_
      | refine T_sipush (v := (nI 999)) (pc1 := 91) (pc := 88) k_M_thinks_88 rfl (by decide) ?_
      | (refine T_cS (As := [_, _, _]) (d1 := 1) (pc1 := 94) (pc := 91) k_M_thinks_91 rfl (by decide) (Nat.le_of_ble_eq_true rfl) rfl o_M_between l_M_130 rfl (c_M_between ?_) <;> try dsimp only [psh])
      | refine T_retI (pc := 94) k_M_thinks_94 rfl (by first | rfl | decide | assumption) ?_)
    · rw [if_neg (by assumption)] at kk
      exact kk I eqx_rf
    · rw [if_pos (Decidable.not_not.mp (by assumption))] at kk
      exact kk I eqx_rf
  | some t =>
    have hv : opt1 (txt N 1 tn) = nI t := by rw [htx]; rfl
    rw [htx] at kk
    dsimp only at kk
    obtain ⟨lv, m, ht, hm, hm96, hlv, hok⟩ := okL_txt ok htx (by decide)
    rw [hm, nI_clamp (by omega)] at kk
    repeat' (first
      | refine T_aload_n (pc1 := 1) (pc := 0) k_M_thinks_0 rfl rfl ?_
      | refine T_aload_nN (pc1 := 1) (pc := 0) k_M_thinks_0 rfl rfl ?_
      | refine T_iload_n (pc1 := 2) (pc := 1) k_M_thinks_1 rfl rfl ?_
      | refine T_iconst (v := (nI 5)) (pc1 := 3) (pc := 2) k_M_thinks_2 rfl (by decide) ?_
      | (refine T_cV (As := [_, _]) (d1 := 1) (pc1 := 6) (pc := 3) k_M_thinks_3 rfl (by decide) (Nat.le_of_ble_eq_true rfl) rfl o_M_bitIs l_M_124 rfl (by first | exact ga G (by decide) rfl | assumption) rfl (c_M_bitN G (by assumption) (by omega) (by omega) (by first | assumption | rfl) ?_) <;> try dsimp only [psh])
      | refine T_istore_n (pc1 := 7) (pc := 6) k_M_thinks_6 rfl (Nat.le_of_ble_eq_true rfl) ?_
      | refine T_aload_n (pc1 := 8) (pc := 7) k_M_thinks_7 rfl rfl ?_
      | refine T_aload_nN (pc1 := 8) (pc := 7) k_M_thinks_7 rfl rfl ?_
      | refine T_iconst (v := (nI 1)) (pc1 := 9) (pc := 8) k_M_thinks_8 rfl (by decide) ?_
      | (refine T_cV (As := [_]) (d1 := 1) (pc1 := 12) (pc := 9) k_M_thinks_9 rfl (by decide) (Nat.le_of_ble_eq_true rfl) rfl o_M_counting l_M_121 rfl (by first | exact ga G (by decide) rfl | assumption) rfl (c_M_counting G (by assumption) (by assumption) (by assumption) (by assumption) ?_) <;> try dsimp only [psh])
      | refine T_istore_n (pc1 := 13) (pc := 12) k_M_thinks_12 rfl (Nat.le_of_ble_eq_true rfl) ?_
      | refine T_iload_n (pc1 := 14) (pc := 13) k_M_thinks_13 rfl rfl ?_
      | (with_reducible refine T_if_geN (tgt := 41) (pc1 := 17) (pc := 14) k_M_thinks_14 (by decide) (by decide) (by omega) ?_ <;> first | (exfalso; omega) | skip)
      | refine T_if_ge_t (tgt := 41) (pc := 14) k_M_thinks_14 rfl (by decide) ?_
      | refine T_if_ge_f (tgt := 41) (pc1 := 17) (pc := 14) k_M_thinks_14 rfl rfl (by decide) ?_
      | refine T_if_ge (tgt := 41) (pc1 := 17) (pc := 14) k_M_thinks_14 rfl rfl (fun hc => ?_) (fun hc => ?_)
      | refine T_iload_n (pc1 := 18) (pc := 17) k_M_thinks_17 rfl rfl ?_
      | refine T_ldc (v := (-1000000005)) (pc1 := 20) (pc := 18) k_M_thinks_18 rfl c_M_103 ?_
      | (with_reducible refine T_icmp_neN (tgt := 32) (pc1 := 23) (pc := 20) k_M_thinks_20 (by decide) (by decide) (by omega) (by omega) (fun hc => ?_) (fun hc => ?_) <;> first | (exfalso; omega) | skip)
      | refine T_icmp_ne_t (tgt := 32) (pc := 20) k_M_thinks_20 rfl (by decide) ?_
      | refine T_icmp_ne_f (tgt := 32) (pc1 := 23) (pc := 20) k_M_thinks_20 rfl rfl (by decide) ?_
      | refine T_icmp_ne (tgt := 32) (pc1 := 23) (pc := 20) k_M_thinks_20 rfl rfl (fun hc => ?_) (fun hc => ?_)
      | refine T_aload_n (pc1 := 24) (pc := 23) k_M_thinks_23 rfl rfl ?_
      | refine T_aload_nN (pc1 := 24) (pc := 23) k_M_thinks_23 rfl rfl ?_
      | refine T_getR (pc1 := 27) (pc := 24) k_M_thinks_24 rfl f_M_9 rfl (by first | exact ga G (by decide) rfl | assumption) (by first | exact gr G (by decide) rfl | assumption) ?_
      | refine T_iconst (v := (nI 4)) (pc1 := 28) (pc := 27) k_M_thinks_27 rfl (by decide) ?_
      | refine T_ialdN (pc1 := 29) (pc := 28) k_M_thinks_28 rfl (by first | exact ga G (by decide) rfl | assumption) (by omega) (by omega) (by first | assumption | (simp (disch := omega) only [pI_eq, pI_row, pI_col, va_up_self, va_up_ne, ne_eq, not_false_eq_true, hN] <;> rfl) | rfl) ?_
      | refine T_iald (pc1 := 29) (pc := 28) k_M_thinks_28 rfl (by first | exact ga G (by decide) rfl | assumption) (by assumption) ?_
      | refine T_goto (tgt := 40) (pc := 29) k_M_thinks_29 rfl ?_
      | refine T_iload_n (pc1 := 33) (pc := 32) k_M_thinks_32 rfl rfl ?_
      | refine T_iconst (v := (nI 1)) (pc1 := 34) (pc := 33) k_M_thinks_33 rfl (by decide) ?_
      | refine T_sipush (v := (nI 999)) (pc1 := 37) (pc := 34) k_M_thinks_34 rfl (by decide) ?_
      | (refine T_cS (As := [_, _, _]) (d1 := 1) (pc1 := 40) (pc := 37) k_M_thinks_37 rfl (by decide) (Nat.le_of_ble_eq_true rfl) rfl o_M_between l_M_130 rfl (c_M_between ?_) <;> try dsimp only [psh])
      | refine T_retI (pc := 40) k_M_thinks_40 rfl (by first | rfl | decide | assumption) ?_
      | refine T_aload_n (pc1 := 42) (pc := 41) k_M_thinks_41 rfl rfl ?_
      | refine T_aload_nN (pc1 := 42) (pc := 41) k_M_thinks_41 rfl rfl ?_
      | refine T_getR (pc1 := 45) (pc := 42) k_M_thinks_42 rfl f_M_55 rfl (by first | exact ga G (by decide) rfl | assumption) (by first | exact gr G (by decide) rfl | assumption) ?_
      | refine T_iconst (v := (nI 0)) (pc1 := 46) (pc := 45) k_M_thinks_45 rfl (by decide) ?_
      | refine T_iload_n (pc1 := 47) (pc := 46) k_M_thinks_46 rfl rfl ?_
      | refine T_ldc (v := (-1000000005)) (pc1 := 49) (pc := 47) k_M_thinks_47 rfl c_M_103 ?_
      | (with_reducible refine T_icmp_neN (tgt := 56) (pc1 := 52) (pc := 49) k_M_thinks_49 (by decide) (by decide) (by omega) (by omega) (fun hc => ?_) (fun hc => ?_) <;> first | (exfalso; omega) | skip)
      | refine T_icmp_ne_t (tgt := 56) (pc := 49) k_M_thinks_49 rfl (by decide) ?_
      | refine T_icmp_ne_f (tgt := 56) (pc1 := 52) (pc := 49) k_M_thinks_49 rfl rfl (by decide) ?_
      | refine T_icmp_ne (tgt := 56) (pc1 := 52) (pc := 49) k_M_thinks_49 rfl rfl (fun hc => ?_) (fun hc => ?_)
      | refine T_iconst (v := (nI 0)) (pc1 := 53) (pc := 52) k_M_thinks_52 rfl (by decide) ?_
      | refine T_goto (tgt := 57) (pc := 53) k_M_thinks_53 rfl ?_
      | refine T_iload_n (pc1 := 57) (pc := 56) k_M_thinks_56 rfl rfl ?_
      | refine T_iastN (pc1 := 58) (pc := 57) k_M_thinks_57 rfl (by first | exact ga G (by decide) rfl | assumption) (by omega) (by omega) ?_
      | refine T_aload_n (pc1 := 59) (pc := 58) k_M_thinks_58 rfl rfl ?_
      | refine T_aload_nN (pc1 := 59) (pc := 58) k_M_thinks_58 rfl rfl ?_
      | refine T_getR (pc1 := 62) (pc := 59) k_M_thinks_59 rfl f_M_55 rfl (by first | exact ga G (by decide) rfl | assumption) (by first | exact gr G (by decide) rfl | assumption) ?_
      | refine T_iconst (v := (nI 1)) (pc1 := 63) (pc := 62) k_M_thinks_62 rfl (by decide) ?_
      | refine T_aload_n (pc1 := 64) (pc := 63) k_M_thinks_63 rfl rfl ?_
      | refine T_aload_nN (pc1 := 64) (pc := 63) k_M_thinks_63 rfl rfl ?_
      | refine T_getR (pc1 := 67) (pc := 64) k_M_thinks_64 rfl f_M_9 rfl (by first | exact ga G (by decide) rfl | assumption) (by first | exact gr G (by decide) rfl | assumption) ?_
      | refine T_iconst (v := (nI 4)) (pc1 := 68) (pc := 67) k_M_thinks_67 rfl (by decide) ?_
      | refine T_ialdN (pc1 := 69) (pc := 68) k_M_thinks_68 rfl (by first | exact ga G (by decide) rfl | assumption) (by omega) (by omega) (by first | assumption | (simp (disch := omega) only [pI_eq, pI_row, pI_col, va_up_self, va_up_ne, ne_eq, not_false_eq_true, hN] <;> rfl) | rfl) ?_
      | refine T_iald (pc1 := 69) (pc := 68) k_M_thinks_68 rfl (by first | exact ga G (by decide) rfl | assumption) (by assumption) ?_
      | refine T_iastN (pc1 := 70) (pc := 69) k_M_thinks_69 rfl (by first | exact ga G (by decide) rfl | assumption) (by omega) (by omega) ?_
      | refine T_aload_n (pc1 := 71) (pc := 70) k_M_thinks_70 rfl rfl ?_
      | refine T_aload_nN (pc1 := 71) (pc := 70) k_M_thinks_70 rfl rfl ?_
      | refine T_getR (pc1 := 74) (pc := 71) k_M_thinks_71 rfl f_M_55 rfl (by first | exact ga G (by decide) rfl | assumption) (by first | exact gr G (by decide) rfl | assumption) ?_
      | refine T_iconst (v := (nI 2)) (pc1 := 75) (pc := 74) k_M_thinks_74 rfl (by decide) ?_
      | refine T_aload_n (pc1 := 76) (pc := 75) k_M_thinks_75 rfl rfl ?_
      | refine T_aload_nN (pc1 := 76) (pc := 75) k_M_thinks_75 rfl rfl ?_
      | refine T_iload_n (pc1 := 77) (pc := 76) k_M_thinks_76 rfl rfl ?_
      | refine T_iconst (v := (nI 0)) (pc1 := 78) (pc := 77) k_M_thinks_77 rfl (by decide) ?_
      | (refine T_cV (As := [_, _]) (d1 := 1) (pc1 := 81) (pc := 78) k_M_thinks_78 rfl (by decide) (Nat.le_of_ble_eq_true rfl) rfl o_M_bitIs l_M_124 rfl (by first | exact ga G (by decide) rfl | assumption) rfl (c_M_bitN (N := N) G (by rw [pI_rw (by decide), pI_rw (by decide)]; exact hN) (by omega) (by omega) rfl ?_) <;> try dsimp only [psh])
      | refine T_iastN (pc1 := 82) (pc := 81) k_M_thinks_81 rfl (by first | exact ga G (by decide) rfl | assumption) (by omega) (by omega) ?_
      | refine T_aload_n (pc1 := 83) (pc := 82) k_M_thinks_82 rfl rfl ?_
      | refine T_aload_nN (pc1 := 83) (pc := 82) k_M_thinks_82 rfl rfl ?_
      | refine T_iload_n (pc1 := 84) (pc := 83) k_M_thinks_83 rfl rfl ?_
      | (refine T_cV (As := [_]) (d1 := 2) (pc1 := 87) (pc := 84) k_M_thinks_84 rfl (by decide) (Nat.le_of_ble_eq_true rfl) rfl o_M_worked l_M_127 rfl (by first | exact ga G (by decide) rfl | assumption) rfl (c_M_worked (N := N) (m := m) (lv := lv) (nn := 3) G (by rw [pI_rw (by decide), pI_rw (by decide), pI_rw (by decide)]; exact hN) rfl ht hm hm96 hlv (by decide) hok (fun J hJ => ?_)) <;> try dsimp only [psh])
      | refine T_sipush (v := (nI 999)) (pc1 := 91) (pc := 88) k_M_thinks_88 rfl (by decide) ?_
      | (refine T_cS (As := [_, _, _]) (d1 := 1) (pc1 := 94) (pc := 91) k_M_thinks_91 rfl (by decide) (Nat.le_of_ble_eq_true rfl) rfl o_M_between l_M_130 rfl (c_M_between ?_) <;> try dsimp only [psh])
      | refine T_retI (pc := 94) k_M_thinks_94 rfl (by first | rfl | decide | assumption) ?_)
    · rw [if_neg (by assumption)] at kk
      rw [evl_congr (nm' := nm3 (bf N b 5) (N 4) (bf N b 0)) hok (nm3_of ?_ ?_ ?_) (by decide)]
      · repeat' (first
          | refine T_aload_n (pc1 := 1) (pc := 0) k_M_thinks_0 rfl rfl ?_
          | refine T_aload_nN (pc1 := 1) (pc := 0) k_M_thinks_0 rfl rfl ?_
          | refine T_iload_n (pc1 := 2) (pc := 1) k_M_thinks_1 rfl rfl ?_
          | refine T_iconst (v := (nI 5)) (pc1 := 3) (pc := 2) k_M_thinks_2 rfl (by decide) ?_
          | (refine T_cV (As := [_, _]) (d1 := 1) (pc1 := 6) (pc := 3) k_M_thinks_3 rfl (by decide) (Nat.le_of_ble_eq_true rfl) rfl o_M_bitIs l_M_124 rfl (by first | exact ga G (by decide) rfl | assumption) rfl (c_M_bitN G (by assumption) (by omega) (by omega) (by first | assumption | rfl) ?_) <;> try dsimp only [psh])
          | refine T_istore_n (pc1 := 7) (pc := 6) k_M_thinks_6 rfl (Nat.le_of_ble_eq_true rfl) ?_
          | refine T_aload_n (pc1 := 8) (pc := 7) k_M_thinks_7 rfl rfl ?_
          | refine T_aload_nN (pc1 := 8) (pc := 7) k_M_thinks_7 rfl rfl ?_
          | refine T_iconst (v := (nI 1)) (pc1 := 9) (pc := 8) k_M_thinks_8 rfl (by decide) ?_
          | (refine T_cV (As := [_]) (d1 := 1) (pc1 := 12) (pc := 9) k_M_thinks_9 rfl (by decide) (Nat.le_of_ble_eq_true rfl) rfl o_M_counting l_M_121 rfl (by first | exact ga G (by decide) rfl | assumption) rfl (c_M_counting G (by assumption) (by assumption) (by assumption) (by assumption) ?_) <;> try dsimp only [psh])
          | refine T_istore_n (pc1 := 13) (pc := 12) k_M_thinks_12 rfl (Nat.le_of_ble_eq_true rfl) ?_
          | refine T_iload_n (pc1 := 14) (pc := 13) k_M_thinks_13 rfl rfl ?_
          | (with_reducible refine T_if_geN (tgt := 41) (pc1 := 17) (pc := 14) k_M_thinks_14 (by decide) (by decide) (by omega) ?_ <;> first | (exfalso; omega) | skip)
          | refine T_if_ge_t (tgt := 41) (pc := 14) k_M_thinks_14 rfl (by decide) ?_
          | refine T_if_ge_f (tgt := 41) (pc1 := 17) (pc := 14) k_M_thinks_14 rfl rfl (by decide) ?_
          | refine T_if_ge (tgt := 41) (pc1 := 17) (pc := 14) k_M_thinks_14 rfl rfl (fun hc => ?_) (fun hc => ?_)
          | refine T_iload_n (pc1 := 18) (pc := 17) k_M_thinks_17 rfl rfl ?_
          | refine T_ldc (v := (-1000000005)) (pc1 := 20) (pc := 18) k_M_thinks_18 rfl c_M_103 ?_
          | (with_reducible refine T_icmp_neN (tgt := 32) (pc1 := 23) (pc := 20) k_M_thinks_20 (by decide) (by decide) (by omega) (by omega) (fun hc => ?_) (fun hc => ?_) <;> first | (exfalso; omega) | skip)
          | refine T_icmp_ne_t (tgt := 32) (pc := 20) k_M_thinks_20 rfl (by decide) ?_
          | refine T_icmp_ne_f (tgt := 32) (pc1 := 23) (pc := 20) k_M_thinks_20 rfl rfl (by decide) ?_
          | refine T_icmp_ne (tgt := 32) (pc1 := 23) (pc := 20) k_M_thinks_20 rfl rfl (fun hc => ?_) (fun hc => ?_)
          | refine T_aload_n (pc1 := 24) (pc := 23) k_M_thinks_23 rfl rfl ?_
          | refine T_aload_nN (pc1 := 24) (pc := 23) k_M_thinks_23 rfl rfl ?_
          | refine T_getR (pc1 := 27) (pc := 24) k_M_thinks_24 rfl f_M_9 rfl (by first | exact ga G (by decide) rfl | assumption) (by first | exact gr G (by decide) rfl | assumption) ?_
          | refine T_iconst (v := (nI 4)) (pc1 := 28) (pc := 27) k_M_thinks_27 rfl (by decide) ?_
          | refine T_ialdN (pc1 := 29) (pc := 28) k_M_thinks_28 rfl (by first | exact ga G (by decide) rfl | assumption) (by omega) (by omega) (by first | assumption | (simp (disch := omega) only [pI_eq, pI_row, pI_col, va_up_self, va_up_ne, ne_eq, not_false_eq_true, hN] <;> rfl) | rfl) ?_
          | refine T_iald (pc1 := 29) (pc := 28) k_M_thinks_28 rfl (by first | exact ga G (by decide) rfl | assumption) (by assumption) ?_
          | refine T_goto (tgt := 40) (pc := 29) k_M_thinks_29 rfl ?_
          | refine T_iload_n (pc1 := 33) (pc := 32) k_M_thinks_32 rfl rfl ?_
          | refine T_iconst (v := (nI 1)) (pc1 := 34) (pc := 33) k_M_thinks_33 rfl (by decide) ?_
          | refine T_sipush (v := (nI 999)) (pc1 := 37) (pc := 34) k_M_thinks_34 rfl (by decide) ?_
          | (refine T_cS (As := [_, _, _]) (d1 := 1) (pc1 := 40) (pc := 37) k_M_thinks_37 rfl (by decide) (Nat.le_of_ble_eq_true rfl) rfl o_M_between l_M_130 rfl (c_M_between ?_) <;> try dsimp only [psh])
          | refine T_retI (pc := 40) k_M_thinks_40 rfl (by first | rfl | decide | assumption) ?_
          | refine T_aload_n (pc1 := 42) (pc := 41) k_M_thinks_41 rfl rfl ?_
          | refine T_aload_nN (pc1 := 42) (pc := 41) k_M_thinks_41 rfl rfl ?_
          | refine T_getR (pc1 := 45) (pc := 42) k_M_thinks_42 rfl f_M_55 rfl (by first | exact ga G (by decide) rfl | assumption) (by first | exact gr G (by decide) rfl | assumption) ?_
          | refine T_iconst (v := (nI 0)) (pc1 := 46) (pc := 45) k_M_thinks_45 rfl (by decide) ?_
          | refine T_iload_n (pc1 := 47) (pc := 46) k_M_thinks_46 rfl rfl ?_
          | refine T_ldc (v := (-1000000005)) (pc1 := 49) (pc := 47) k_M_thinks_47 rfl c_M_103 ?_
          | (with_reducible refine T_icmp_neN (tgt := 56) (pc1 := 52) (pc := 49) k_M_thinks_49 (by decide) (by decide) (by omega) (by omega) (fun hc => ?_) (fun hc => ?_) <;> first | (exfalso; omega) | skip)
          | refine T_icmp_ne_t (tgt := 56) (pc := 49) k_M_thinks_49 rfl (by decide) ?_
          | refine T_icmp_ne_f (tgt := 56) (pc1 := 52) (pc := 49) k_M_thinks_49 rfl rfl (by decide) ?_
          | refine T_icmp_ne (tgt := 56) (pc1 := 52) (pc := 49) k_M_thinks_49 rfl rfl (fun hc => ?_) (fun hc => ?_)
          | refine T_iconst (v := (nI 0)) (pc1 := 53) (pc := 52) k_M_thinks_52 rfl (by decide) ?_
          | refine T_goto (tgt := 57) (pc := 53) k_M_thinks_53 rfl ?_
          | refine T_iload_n (pc1 := 57) (pc := 56) k_M_thinks_56 rfl rfl ?_
          | refine T_iastN (pc1 := 58) (pc := 57) k_M_thinks_57 rfl (by first | exact ga G (by decide) rfl | assumption) (by omega) (by omega) ?_
          | refine T_aload_n (pc1 := 59) (pc := 58) k_M_thinks_58 rfl rfl ?_
          | refine T_aload_nN (pc1 := 59) (pc := 58) k_M_thinks_58 rfl rfl ?_
          | refine T_getR (pc1 := 62) (pc := 59) k_M_thinks_59 rfl f_M_55 rfl (by first | exact ga G (by decide) rfl | assumption) (by first | exact gr G (by decide) rfl | assumption) ?_
          | refine T_iconst (v := (nI 1)) (pc1 := 63) (pc := 62) k_M_thinks_62 rfl (by decide) ?_
          | refine T_aload_n (pc1 := 64) (pc := 63) k_M_thinks_63 rfl rfl ?_
          | refine T_aload_nN (pc1 := 64) (pc := 63) k_M_thinks_63 rfl rfl ?_
          | refine T_getR (pc1 := 67) (pc := 64) k_M_thinks_64 rfl f_M_9 rfl (by first | exact ga G (by decide) rfl | assumption) (by first | exact gr G (by decide) rfl | assumption) ?_
          | refine T_iconst (v := (nI 4)) (pc1 := 68) (pc := 67) k_M_thinks_67 rfl (by decide) ?_
          | refine T_ialdN (pc1 := 69) (pc := 68) k_M_thinks_68 rfl (by first | exact ga G (by decide) rfl | assumption) (by omega) (by omega) (by first | assumption | (simp (disch := omega) only [pI_eq, pI_row, pI_col, va_up_self, va_up_ne, ne_eq, not_false_eq_true, hN] <;> rfl) | rfl) ?_
          | refine T_iald (pc1 := 69) (pc := 68) k_M_thinks_68 rfl (by first | exact ga G (by decide) rfl | assumption) (by assumption) ?_
          | refine T_iastN (pc1 := 70) (pc := 69) k_M_thinks_69 rfl (by first | exact ga G (by decide) rfl | assumption) (by omega) (by omega) ?_
          | refine T_aload_n (pc1 := 71) (pc := 70) k_M_thinks_70 rfl rfl ?_
          | refine T_aload_nN (pc1 := 71) (pc := 70) k_M_thinks_70 rfl rfl ?_
          | refine T_getR (pc1 := 74) (pc := 71) k_M_thinks_71 rfl f_M_55 rfl (by first | exact ga G (by decide) rfl | assumption) (by first | exact gr G (by decide) rfl | assumption) ?_
          | refine T_iconst (v := (nI 2)) (pc1 := 75) (pc := 74) k_M_thinks_74 rfl (by decide) ?_
          | refine T_aload_n (pc1 := 76) (pc := 75) k_M_thinks_75 rfl rfl ?_
          | refine T_aload_nN (pc1 := 76) (pc := 75) k_M_thinks_75 rfl rfl ?_
          | refine T_iload_n (pc1 := 77) (pc := 76) k_M_thinks_76 rfl rfl ?_
          | refine T_iconst (v := (nI 0)) (pc1 := 78) (pc := 77) k_M_thinks_77 rfl (by decide) ?_
          | (refine T_cV (As := [_, _]) (d1 := 1) (pc1 := 81) (pc := 78) k_M_thinks_78 rfl (by decide) (Nat.le_of_ble_eq_true rfl) rfl o_M_bitIs l_M_124 rfl (by first | exact ga G (by decide) rfl | assumption) rfl (c_M_bitN (N := N) G (by rw [pI_rw (by decide), pI_rw (by decide)]; exact hN) (by omega) (by omega) rfl ?_) <;> try dsimp only [psh])
          | refine T_iastN (pc1 := 82) (pc := 81) k_M_thinks_81 rfl (by first | exact ga G (by decide) rfl | assumption) (by omega) (by omega) ?_
          | refine T_aload_n (pc1 := 83) (pc := 82) k_M_thinks_82 rfl rfl ?_
          | refine T_aload_nN (pc1 := 83) (pc := 82) k_M_thinks_82 rfl rfl ?_
          | refine T_iload_n (pc1 := 84) (pc := 83) k_M_thinks_83 rfl rfl ?_
          | (refine T_cV (As := [_]) (d1 := 2) (pc1 := 87) (pc := 84) k_M_thinks_84 rfl (by decide) (Nat.le_of_ble_eq_true rfl) rfl o_M_worked l_M_127 rfl (by first | exact ga G (by decide) rfl | assumption) rfl (c_M_worked (N := N) (m := m) (lv := lv) (nn := 3) G (by rw [pI_rw (by decide), pI_rw (by decide), pI_rw (by decide)]; exact hN) rfl ht hm hm96 hlv (by decide) hok (fun J hJ => ?_)) <;> try dsimp only [psh])
          | refine T_iconst (v := (nI 1)) (pc1 := 88) (pc := 87) k_M_thinks_87 rfl (by decide) ?_
          | refine T_sipush (v := (nI 999)) (pc1 := 91) (pc := 88) k_M_thinks_88 rfl (by decide) ?_
          | (refine T_cS (As := [_, _, _]) (d1 := 1) (pc1 := 94) (pc := 91) k_M_thinks_91 rfl (by decide) (Nat.le_of_ble_eq_true rfl) rfl o_M_between l_M_130 rfl (c_M_between ?_) <;> try dsimp only [psh])
          | refine T_retI (pc := 94) k_M_thinks_94 rfl (by first | rfl | decide | assumption) ?_)
        exact kk J (eqx_tr (eqx_pI (eqx_pI (eqx_pI eqx_rf _ (by decide)) _ (by decide)) _ (by decide)) (eqx_mono hJ (by decide)))
      · rw [pI_col (by decide), pI_col (by decide), pI_eq]
      · rw [pI_col (by decide), pI_eq]
      · rw [pI_eq]
    · rw [if_pos (Decidable.not_not.mp (by assumption))] at kk
      rw [evl_congr (nm' := nm3 (nI 0) (N 4) (bf N b 0)) hok (nm3_of ?_ ?_ ?_) (by decide)]
      · repeat' (first
          | refine T_aload_n (pc1 := 1) (pc := 0) k_M_thinks_0 rfl rfl ?_
          | refine T_aload_nN (pc1 := 1) (pc := 0) k_M_thinks_0 rfl rfl ?_
          | refine T_iload_n (pc1 := 2) (pc := 1) k_M_thinks_1 rfl rfl ?_
          | refine T_iconst (v := (nI 5)) (pc1 := 3) (pc := 2) k_M_thinks_2 rfl (by decide) ?_
          | (refine T_cV (As := [_, _]) (d1 := 1) (pc1 := 6) (pc := 3) k_M_thinks_3 rfl (by decide) (Nat.le_of_ble_eq_true rfl) rfl o_M_bitIs l_M_124 rfl (by first | exact ga G (by decide) rfl | assumption) rfl (c_M_bitN G (by assumption) (by omega) (by omega) (by first | assumption | rfl) ?_) <;> try dsimp only [psh])
          | refine T_istore_n (pc1 := 7) (pc := 6) k_M_thinks_6 rfl (Nat.le_of_ble_eq_true rfl) ?_
          | refine T_aload_n (pc1 := 8) (pc := 7) k_M_thinks_7 rfl rfl ?_
          | refine T_aload_nN (pc1 := 8) (pc := 7) k_M_thinks_7 rfl rfl ?_
          | refine T_iconst (v := (nI 1)) (pc1 := 9) (pc := 8) k_M_thinks_8 rfl (by decide) ?_
          | (refine T_cV (As := [_]) (d1 := 1) (pc1 := 12) (pc := 9) k_M_thinks_9 rfl (by decide) (Nat.le_of_ble_eq_true rfl) rfl o_M_counting l_M_121 rfl (by first | exact ga G (by decide) rfl | assumption) rfl (c_M_counting G (by assumption) (by assumption) (by assumption) (by assumption) ?_) <;> try dsimp only [psh])
          | refine T_istore_n (pc1 := 13) (pc := 12) k_M_thinks_12 rfl (Nat.le_of_ble_eq_true rfl) ?_
          | refine T_iload_n (pc1 := 14) (pc := 13) k_M_thinks_13 rfl rfl ?_
          | (with_reducible refine T_if_geN (tgt := 41) (pc1 := 17) (pc := 14) k_M_thinks_14 (by decide) (by decide) (by omega) ?_ <;> first | (exfalso; omega) | skip)
          | refine T_if_ge_t (tgt := 41) (pc := 14) k_M_thinks_14 rfl (by decide) ?_
          | refine T_if_ge_f (tgt := 41) (pc1 := 17) (pc := 14) k_M_thinks_14 rfl rfl (by decide) ?_
          | refine T_if_ge (tgt := 41) (pc1 := 17) (pc := 14) k_M_thinks_14 rfl rfl (fun hc => ?_) (fun hc => ?_)
          | refine T_iload_n (pc1 := 18) (pc := 17) k_M_thinks_17 rfl rfl ?_
          | refine T_ldc (v := (-1000000005)) (pc1 := 20) (pc := 18) k_M_thinks_18 rfl c_M_103 ?_
          | (with_reducible refine T_icmp_neN (tgt := 32) (pc1 := 23) (pc := 20) k_M_thinks_20 (by decide) (by decide) (by omega) (by omega) (fun hc => ?_) (fun hc => ?_) <;> first | (exfalso; omega) | skip)
          | refine T_icmp_ne_t (tgt := 32) (pc := 20) k_M_thinks_20 rfl (by decide) ?_
          | refine T_icmp_ne_f (tgt := 32) (pc1 := 23) (pc := 20) k_M_thinks_20 rfl rfl (by decide) ?_
          | refine T_icmp_ne (tgt := 32) (pc1 := 23) (pc := 20) k_M_thinks_20 rfl rfl (fun hc => ?_) (fun hc => ?_)
          | refine T_aload_n (pc1 := 24) (pc := 23) k_M_thinks_23 rfl rfl ?_
          | refine T_aload_nN (pc1 := 24) (pc := 23) k_M_thinks_23 rfl rfl ?_
          | refine T_getR (pc1 := 27) (pc := 24) k_M_thinks_24 rfl f_M_9 rfl (by first | exact ga G (by decide) rfl | assumption) (by first | exact gr G (by decide) rfl | assumption) ?_
          | refine T_iconst (v := (nI 4)) (pc1 := 28) (pc := 27) k_M_thinks_27 rfl (by decide) ?_
          | refine T_ialdN (pc1 := 29) (pc := 28) k_M_thinks_28 rfl (by first | exact ga G (by decide) rfl | assumption) (by omega) (by omega) (by first | assumption | (simp (disch := omega) only [pI_eq, pI_row, pI_col, va_up_self, va_up_ne, ne_eq, not_false_eq_true, hN] <;> rfl) | rfl) ?_
          | refine T_iald (pc1 := 29) (pc := 28) k_M_thinks_28 rfl (by first | exact ga G (by decide) rfl | assumption) (by assumption) ?_
          | refine T_goto (tgt := 40) (pc := 29) k_M_thinks_29 rfl ?_
          | refine T_iload_n (pc1 := 33) (pc := 32) k_M_thinks_32 rfl rfl ?_
          | refine T_iconst (v := (nI 1)) (pc1 := 34) (pc := 33) k_M_thinks_33 rfl (by decide) ?_
          | refine T_sipush (v := (nI 999)) (pc1 := 37) (pc := 34) k_M_thinks_34 rfl (by decide) ?_
          | (refine T_cS (As := [_, _, _]) (d1 := 1) (pc1 := 40) (pc := 37) k_M_thinks_37 rfl (by decide) (Nat.le_of_ble_eq_true rfl) rfl o_M_between l_M_130 rfl (c_M_between ?_) <;> try dsimp only [psh])
          | refine T_retI (pc := 40) k_M_thinks_40 rfl (by first | rfl | decide | assumption) ?_
          | refine T_aload_n (pc1 := 42) (pc := 41) k_M_thinks_41 rfl rfl ?_
          | refine T_aload_nN (pc1 := 42) (pc := 41) k_M_thinks_41 rfl rfl ?_
          | refine T_getR (pc1 := 45) (pc := 42) k_M_thinks_42 rfl f_M_55 rfl (by first | exact ga G (by decide) rfl | assumption) (by first | exact gr G (by decide) rfl | assumption) ?_
          | refine T_iconst (v := (nI 0)) (pc1 := 46) (pc := 45) k_M_thinks_45 rfl (by decide) ?_
          | refine T_iload_n (pc1 := 47) (pc := 46) k_M_thinks_46 rfl rfl ?_
          | refine T_ldc (v := (-1000000005)) (pc1 := 49) (pc := 47) k_M_thinks_47 rfl c_M_103 ?_
          | (with_reducible refine T_icmp_neN (tgt := 56) (pc1 := 52) (pc := 49) k_M_thinks_49 (by decide) (by decide) (by omega) (by omega) (fun hc => ?_) (fun hc => ?_) <;> first | (exfalso; omega) | skip)
          | refine T_icmp_ne_t (tgt := 56) (pc := 49) k_M_thinks_49 rfl (by decide) ?_
          | refine T_icmp_ne_f (tgt := 56) (pc1 := 52) (pc := 49) k_M_thinks_49 rfl rfl (by decide) ?_
          | refine T_icmp_ne (tgt := 56) (pc1 := 52) (pc := 49) k_M_thinks_49 rfl rfl (fun hc => ?_) (fun hc => ?_)
          | refine T_iconst (v := (nI 0)) (pc1 := 53) (pc := 52) k_M_thinks_52 rfl (by decide) ?_
          | refine T_goto (tgt := 57) (pc := 53) k_M_thinks_53 rfl ?_
          | refine T_iload_n (pc1 := 57) (pc := 56) k_M_thinks_56 rfl rfl ?_
          | refine T_iastN (pc1 := 58) (pc := 57) k_M_thinks_57 rfl (by first | exact ga G (by decide) rfl | assumption) (by omega) (by omega) ?_
          | refine T_aload_n (pc1 := 59) (pc := 58) k_M_thinks_58 rfl rfl ?_
          | refine T_aload_nN (pc1 := 59) (pc := 58) k_M_thinks_58 rfl rfl ?_
          | refine T_getR (pc1 := 62) (pc := 59) k_M_thinks_59 rfl f_M_55 rfl (by first | exact ga G (by decide) rfl | assumption) (by first | exact gr G (by decide) rfl | assumption) ?_
          | refine T_iconst (v := (nI 1)) (pc1 := 63) (pc := 62) k_M_thinks_62 rfl (by decide) ?_
          | refine T_aload_n (pc1 := 64) (pc := 63) k_M_thinks_63 rfl rfl ?_
          | refine T_aload_nN (pc1 := 64) (pc := 63) k_M_thinks_63 rfl rfl ?_
          | refine T_getR (pc1 := 67) (pc := 64) k_M_thinks_64 rfl f_M_9 rfl (by first | exact ga G (by decide) rfl | assumption) (by first | exact gr G (by decide) rfl | assumption) ?_
          | refine T_iconst (v := (nI 4)) (pc1 := 68) (pc := 67) k_M_thinks_67 rfl (by decide) ?_
          | refine T_ialdN (pc1 := 69) (pc := 68) k_M_thinks_68 rfl (by first | exact ga G (by decide) rfl | assumption) (by omega) (by omega) (by first | assumption | (simp (disch := omega) only [pI_eq, pI_row, pI_col, va_up_self, va_up_ne, ne_eq, not_false_eq_true, hN] <;> rfl) | rfl) ?_
          | refine T_iald (pc1 := 69) (pc := 68) k_M_thinks_68 rfl (by first | exact ga G (by decide) rfl | assumption) (by assumption) ?_
          | refine T_iastN (pc1 := 70) (pc := 69) k_M_thinks_69 rfl (by first | exact ga G (by decide) rfl | assumption) (by omega) (by omega) ?_
          | refine T_aload_n (pc1 := 71) (pc := 70) k_M_thinks_70 rfl rfl ?_
          | refine T_aload_nN (pc1 := 71) (pc := 70) k_M_thinks_70 rfl rfl ?_
          | refine T_getR (pc1 := 74) (pc := 71) k_M_thinks_71 rfl f_M_55 rfl (by first | exact ga G (by decide) rfl | assumption) (by first | exact gr G (by decide) rfl | assumption) ?_
          | refine T_iconst (v := (nI 2)) (pc1 := 75) (pc := 74) k_M_thinks_74 rfl (by decide) ?_
          | refine T_aload_n (pc1 := 76) (pc := 75) k_M_thinks_75 rfl rfl ?_
          | refine T_aload_nN (pc1 := 76) (pc := 75) k_M_thinks_75 rfl rfl ?_
          | refine T_iload_n (pc1 := 77) (pc := 76) k_M_thinks_76 rfl rfl ?_
          | refine T_iconst (v := (nI 0)) (pc1 := 78) (pc := 77) k_M_thinks_77 rfl (by decide) ?_
          | (refine T_cV (As := [_, _]) (d1 := 1) (pc1 := 81) (pc := 78) k_M_thinks_78 rfl (by decide) (Nat.le_of_ble_eq_true rfl) rfl o_M_bitIs l_M_124 rfl (by first | exact ga G (by decide) rfl | assumption) rfl (c_M_bitN (N := N) G (by rw [pI_rw (by decide), pI_rw (by decide)]; exact hN) (by omega) (by omega) rfl ?_) <;> try dsimp only [psh])
          | refine T_iastN (pc1 := 82) (pc := 81) k_M_thinks_81 rfl (by first | exact ga G (by decide) rfl | assumption) (by omega) (by omega) ?_
          | refine T_aload_n (pc1 := 83) (pc := 82) k_M_thinks_82 rfl rfl ?_
          | refine T_aload_nN (pc1 := 83) (pc := 82) k_M_thinks_82 rfl rfl ?_
          | refine T_iload_n (pc1 := 84) (pc := 83) k_M_thinks_83 rfl rfl ?_
          | (refine T_cV (As := [_]) (d1 := 2) (pc1 := 87) (pc := 84) k_M_thinks_84 rfl (by decide) (Nat.le_of_ble_eq_true rfl) rfl o_M_worked l_M_127 rfl (by first | exact ga G (by decide) rfl | assumption) rfl (c_M_worked (N := N) (m := m) (lv := lv) (nn := 3) G (by rw [pI_rw (by decide), pI_rw (by decide), pI_rw (by decide)]; exact hN) rfl ht hm hm96 hlv (by decide) hok (fun J hJ => ?_)) <;> try dsimp only [psh])
          | refine T_iconst (v := (nI 1)) (pc1 := 88) (pc := 87) k_M_thinks_87 rfl (by decide) ?_
          | refine T_sipush (v := (nI 999)) (pc1 := 91) (pc := 88) k_M_thinks_88 rfl (by decide) ?_
          | (refine T_cS (As := [_, _, _]) (d1 := 1) (pc1 := 94) (pc := 91) k_M_thinks_91 rfl (by decide) (Nat.le_of_ble_eq_true rfl) rfl o_M_between l_M_130 rfl (c_M_between ?_) <;> try dsimp only [psh])
          | refine T_retI (pc := 94) k_M_thinks_94 rfl (by first | rfl | decide | assumption) ?_)
        exact kk J (eqx_tr (eqx_pI (eqx_pI (eqx_pI eqx_rf _ (by decide)) _ (by decide)) _ (by decide)) (eqx_mono hJ (by decide)))
      · rw [pI_col (by decide), pI_col (by decide), pI_eq]
      · rw [pI_col (by decide), pI_eq]
      · rw [pI_eq]
end M5
