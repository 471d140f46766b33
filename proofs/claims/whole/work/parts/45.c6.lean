/-! The class: the walker goes. -/
section PC4
theorem wkE_1 {w : WR} : wkE w 1 = w.2.2.2.2 1 + nI 1 := by unfold wkE; rw [va_up_ne _ _ (by decide), va_up_self]
theorem wkE_2 {w : WR} : wkE w 2 = w.2.2.2.2 2 + nI w.2.2.1 := by unfold wkE; rw [va_up_self]
theorem wkE_10 {w : WR} : wkE w 10 = nI w.1 := by
  unfold wkE
  rw [va_up_ne _ _ (by decide), va_up_ne _ _ (by decide), va_up_ne _ _ (by decide), va_up_self]
theorem wkE_11 {w : WR} : wkE w 11 = nI w.2.1 := by
  unfold wkE
  rw [va_up_ne _ _ (by decide), va_up_ne _ _ (by decide), va_up_self]
theorem cne_nI {b : Nat} (hb : b < 2147483648) : ¬ nI b = cNONE := fun q => by
  have := congrArg Int32.toInt q
  rw [nI_toInt hb] at this
  have e : cNONE.toInt = -1000000005 := rfl
  omega
end PC4
section C6
variable {g : Geo} {I : IM} {K : Option Value → Geo → IM → Prop}
theorem c_Wa_start {i : Nat} {v : Int32} (hA : isAg g i 7 6) (kk : K none g (pI (pI (pI (pI (pI I i 0 (nI 1)) i 1 (nI 0)) i 2 (nI 0)) i 3 v) i 4 (nI 2))) : Cl 1 M_Wa_start [.ref i, .int v] g I K := by
  show Rl 1 M_Wa_start 0 [some (.ref i), some (.int v)] [] g I K
  repeat' (first
    | ((first | refine T_aload_n (pc1 := 1) (pc := 0) k_Wa_start_0 rfl rfl ?_ | refine T_aload_nN (pc1 := 1) (pc := 0) k_Wa_start_0 rfl rfl ?_) <;> try (refine T_iconst (v := (nI 1)) (pc1 := 2) (pc := 1) k_Wa_start_1 rfl (by decide) ?_ <;> try (refine T_putI (pc1 := 5) (pc := 2) k_Wa_start_2 rfl f_Wa_9 rfl (by first | assumption | exact ga G (by decide) rfl | exact lgA LG (by omega)) (by first | rfl | decide | assumption) (by first | rfl | decide | assumption) ?_ <;> try ((first | refine T_aload_n (pc1 := 6) (pc := 5) k_Wa_start_5 rfl rfl ?_ | refine T_aload_nN (pc1 := 6) (pc := 5) k_Wa_start_5 rfl rfl ?_) <;> try (refine T_iconst (v := (nI 0)) (pc1 := 7) (pc := 6) k_Wa_start_6 rfl (by decide) ?_ <;> try (refine T_putI (pc1 := 10) (pc := 7) k_Wa_start_7 rfl f_Wa_15 rfl (by first | assumption | exact ga G (by decide) rfl | exact lgA LG (by omega)) (by first | rfl | decide | assumption) (by first | rfl | decide | assumption) ?_ <;> try ((first | refine T_aload_n (pc1 := 11) (pc := 10) k_Wa_start_10 rfl rfl ?_ | refine T_aload_nN (pc1 := 11) (pc := 10) k_Wa_start_10 rfl rfl ?_) <;> try (refine T_iconst (v := (nI 0)) (pc1 := 12) (pc := 11) k_Wa_start_11 rfl (by decide) ?_ <;> try (refine T_putI (pc1 := 15) (pc := 12) k_Wa_start_12 rfl f_Wa_19 rfl (by first | assumption | exact ga G (by decide) rfl | exact lgA LG (by omega)) (by first | rfl | decide | assumption) (by first | rfl | decide | assumption) ?_ <;> try ((first | refine T_aload_n (pc1 := 16) (pc := 15) k_Wa_start_15 rfl rfl ?_ | refine T_aload_nN (pc1 := 16) (pc := 15) k_Wa_start_15 rfl rfl ?_) <;> try (refine T_iload_n (pc1 := 17) (pc := 16) k_Wa_start_16 rfl rfl ?_ <;> try (refine T_putI (pc1 := 20) (pc := 17) k_Wa_start_17 rfl f_Wa_22 rfl (by first | assumption | exact ga G (by decide) rfl | exact lgA LG (by omega)) (by first | rfl | decide | assumption) (by first | rfl | decide | assumption) ?_ <;> try ((first | refine T_aload_n (pc1 := 21) (pc := 20) k_Wa_start_20 rfl rfl ?_ | refine T_aload_nN (pc1 := 21) (pc := 20) k_Wa_start_20 rfl rfl ?_) <;> try (refine T_iconst (v := (nI 2)) (pc1 := 22) (pc := 21) k_Wa_start_21 rfl (by decide) ?_))))))))))))))
    | (refine T_putI (pc1 := 25) (pc := 22) k_Wa_start_22 rfl f_Wa_25 rfl (by first | assumption | exact ga G (by decide) rfl | exact lgA LG (by omega)) (by first | rfl | decide | assumption) (by first | rfl | decide | assumption) ?_ <;> try (refine T_retV (pc := 25) k_Wa_start_25 rfl ?_))
    | refine T_iconst (v := (nI 1)) (pc1 := 2) (pc := 1) k_Wa_start_1 rfl (by decide) ?_
    | refine T_putI (pc1 := 5) (pc := 2) k_Wa_start_2 rfl f_Wa_9 rfl (by first | assumption | exact ga G (by decide) rfl | exact lgA LG (by omega)) (by first | rfl | decide | assumption) (by first | rfl | decide | assumption) ?_
    | refine T_aload_n (pc1 := 6) (pc := 5) k_Wa_start_5 rfl rfl ?_
    | refine T_aload_nN (pc1 := 6) (pc := 5) k_Wa_start_5 rfl rfl ?_
    | refine T_iconst (v := (nI 0)) (pc1 := 7) (pc := 6) k_Wa_start_6 rfl (by decide) ?_
    | refine T_putI (pc1 := 10) (pc := 7) k_Wa_start_7 rfl f_Wa_15 rfl (by first | assumption | exact ga G (by decide) rfl | exact lgA LG (by omega)) (by first | rfl | decide | assumption) (by first | rfl | decide | assumption) ?_
    | refine T_aload_n (pc1 := 11) (pc := 10) k_Wa_start_10 rfl rfl ?_
    | refine T_aload_nN (pc1 := 11) (pc := 10) k_Wa_start_10 rfl rfl ?_
    | refine T_iconst (v := (nI 0)) (pc1 := 12) (pc := 11) k_Wa_start_11 rfl (by decide) ?_
    | refine T_putI (pc1 := 15) (pc := 12) k_Wa_start_12 rfl f_Wa_19 rfl (by first | assumption | exact ga G (by decide) rfl | exact lgA LG (by omega)) (by first | rfl | decide | assumption) (by first | rfl | decide | assumption) ?_
    | refine T_aload_n (pc1 := 16) (pc := 15) k_Wa_start_15 rfl rfl ?_
    | refine T_aload_nN (pc1 := 16) (pc := 15) k_Wa_start_15 rfl rfl ?_
    | refine T_iload_n (pc1 := 17) (pc := 16) k_Wa_start_16 rfl rfl ?_
    | refine T_putI (pc1 := 20) (pc := 17) k_Wa_start_17 rfl f_Wa_22 rfl (by first | assumption | exact ga G (by decide) rfl | exact lgA LG (by omega)) (by first | rfl | decide | assumption) (by first | rfl | decide | assumption) ?_
    | refine T_aload_n (pc1 := 21) (pc := 20) k_Wa_start_20 rfl rfl ?_
    | refine T_aload_nN (pc1 := 21) (pc := 20) k_Wa_start_20 rfl rfl ?_
    | refine T_iconst (v := (nI 2)) (pc1 := 22) (pc := 21) k_Wa_start_21 rfl (by decide) ?_
    | refine T_retV (pc := 25) k_Wa_start_25 rfl ?_)
  exact kk
set_option maxHeartbeats 8000000 in
theorem c_Wr_go {a n tn fr to0 : Nat} {N : Row} (G : GeoOK g) (LG : LandG g a) (ok : okL N n tn) (hL : LaR g I a N n tn) (hf : fr < 8) (ht : to0 < 8) (kk : ∀ J, fre (wf1 a) I J → LaR g J a (wkN N n tn fr to0) n tn → K (some (.int (nI (wkM N n tn fr to0)))) g J) : Cl 6 M_Wr_go [.ref 63, .ref a, .int (nI fr), .int (nI to0)] g I K := by
  show Rl 6 M_Wr_go 0 [some (.ref 63), some (.ref a), some (.int (nI fr)), some (.int (nI to0)), none, none, none, none] [] g I K
  obtain ⟨h5, h14, -⟩ := id ok
  obtain ⟨g1, g2, g3, g4, g5, g6, g7, g8, g9, g10, g11, g12, g13, g14⟩ := id LG
  obtain ⟨LT, LB, LW, ls1, ls2, ls3⟩ := hL
  unfold wkN wkM at kk
  generalize hW : wkW N n tn fr to0 = Wr at kk
  unfold wkW at hW
  have fin : ∀ at0 how mi tr (R : Row) (J : IM) o5 o6 o7, okL R n tn → tr ≤ 60 → (∀ j, 156 ≤ j → R j = N j) → (R 0 = N 0 ∧ R 1 = N 1 ∧ R 2 = N 2) → fre (wf1 a) I J → J a = I a → J (a + 3) = I (a + 3) → LBt J a R n → WkS J a mi tr at0 → J (a + 4) 4 = nI how → (∀ i, i < tr → J (a + 5) i = R (96 + i)) → (at0, how, mi, tr, R) = Wr → Rl 6 M_Wr_go 115 [some (.ref 63), some (.ref a), some (.int (nI fr)), some (.int (nI to0)), some (.ref (a + 4)), o5, o6, o7] [] g J K := by
    intro at0 how mi tr R J o5 o6 o7 okR h60 hR h012 hJ ea e3 hB hWk hend hrow hw
    subst hw
    obtain ⟨w0, w1, w2, w3⟩ := id hWk
    obtain ⟨x1, x2, x3, x4⟩ := id hB
    have a4 : J a 4 = R 1 := by rw [ea, ls1, h012.2.1]
    have a5 : J a 5 = R 2 := by rw [ea, ls2, h012.2.2]
    have a6 : J a 6 = R 0 := by rw [ea, ls3, h012.1]
    have a8 : J a 8 = I a 8 := by rw [ea]
    repeat' (first
      | ((first | refine T_aload_n (pc1 := 116) (pc := 115) k_Wr_go_115 rfl rfl ?_ | refine T_aload_nN (pc1 := 116) (pc := 115) k_Wr_go_115 rfl rfl ?_) <;> try (refine T_dup (pc1 := 117) (pc := 116) k_Wr_go_116 rfl rfl ?_ <;> try (refine T_getV (pc1 := 120) (pc := 117) k_Wr_go_117 rfl f_Wr_57 rfl (by first | assumption | exact ga G (by decide) rfl | exact lgA LG (by omega)) (by first | assumption | (simp (disch := omega) only [pI_eq, pI_row, pI_col, va_up_self, va_up_ne, ne_eq, not_false_eq_true, a4, a5, w1] <;> rfl) | rfl) ?_ <;> try (refine T_iconst (v := (nI 1)) (pc1 := 121) (pc := 120) k_Wr_go_120 rfl (by decide) ?_ <;> try ((first | with_reducible refine T_iaddN (pc1 := 122) (pc := 121) k_Wr_go_121 (by decide) ?_ | refine T_iadd (pc1 := 122) (pc := 121) k_Wr_go_121 rfl ?_) <;> try (refine T_putI (pc1 := 125) (pc := 122) k_Wr_go_122 rfl f_Wr_57 rfl (by first | assumption | exact ga G (by decide) rfl | exact lgA LG (by omega)) (by first | rfl | decide | assumption) (by first | rfl | decide | assumption) ?_ <;> try ((first | refine T_aload_n (pc1 := 126) (pc := 125) k_Wr_go_125 rfl rfl ?_ | refine T_aload_nN (pc1 := 126) (pc := 125) k_Wr_go_125 rfl rfl ?_) <;> try (refine T_dup (pc1 := 127) (pc := 126) k_Wr_go_126 rfl rfl ?_ <;> try (refine T_getV (pc1 := 130) (pc := 127) k_Wr_go_127 rfl f_Wr_60 rfl (by first | assumption | exact ga G (by decide) rfl | exact lgA LG (by omega)) (by first | assumption | (simp (disch := omega) only [pI_eq, pI_row, pI_col, va_up_self, va_up_ne, ne_eq, not_false_eq_true, a4, a5, w1] <;> rfl) | rfl) ?_ <;> try ((first | refine T_aload (pc1 := 132) (pc := 130) k_Wr_go_130 rfl rfl ?_ | refine T_aloadN (pc1 := 132) (pc := 130) k_Wr_go_130 rfl rfl ?_) <;> try (refine T_getV (pc1 := 135) (pc := 132) k_Wr_go_132 rfl f_Wr_63 rfl (by first | assumption | exact ga G (by decide) rfl | exact lgA LG (by omega)) (by first | assumption | (simp (disch := omega) only [pI_eq, pI_row, pI_col, va_up_self, va_up_ne, ne_eq, not_false_eq_true, a4, a5, w1] <;> rfl) | rfl) ?_ <;> try ((first | with_reducible refine T_iaddN (pc1 := 136) (pc := 135) k_Wr_go_135 (by decide) ?_ | refine T_iadd (pc1 := 136) (pc := 135) k_Wr_go_135 rfl ?_) <;> try (refine T_putI (pc1 := 139) (pc := 136) k_Wr_go_136 rfl f_Wr_60 rfl (by first | assumption | exact ga G (by decide) rfl | exact lgA LG (by omega)) (by first | rfl | decide | assumption) (by first | rfl | decide | assumption) ?_ <;> try ((first | refine T_aload (pc1 := 141) (pc := 139) k_Wr_go_139 rfl rfl ?_ | refine T_aloadN (pc1 := 141) (pc := 139) k_Wr_go_139 rfl rfl ?_)))))))))))))))
      | (refine T_getV (pc1 := 144) (pc := 141) k_Wr_go_141 rfl f_Wr_63 rfl (by first | assumption | exact ga G (by decide) rfl | exact lgA LG (by omega)) (by first | assumption | (simp (disch := omega) only [pI_eq, pI_row, pI_col, va_up_self, va_up_ne, ne_eq, not_false_eq_true, a4, a5, w1] <;> rfl) | rfl) ?_ <;> try (refine T_retI (pc := 144) k_Wr_go_144 rfl (by first | rfl | decide | assumption) ?_))
      | refine T_dup (pc1 := 117) (pc := 116) k_Wr_go_116 rfl rfl ?_
      | refine T_getV (pc1 := 120) (pc := 117) k_Wr_go_117 rfl f_Wr_57 rfl (by first | assumption | exact ga G (by decide) rfl | exact lgA LG (by omega)) (by first | assumption | (simp (disch := omega) only [pI_eq, pI_row, pI_col, va_up_self, va_up_ne, ne_eq, not_false_eq_true, a4, a5, w1] <;> rfl) | rfl) ?_
      | refine T_iconst (v := (nI 1)) (pc1 := 121) (pc := 120) k_Wr_go_120 rfl (by decide) ?_
      | with_reducible refine T_iaddN (pc1 := 122) (pc := 121) k_Wr_go_121 (by decide) ?_
      | refine T_iadd (pc1 := 122) (pc := 121) k_Wr_go_121 rfl ?_
      | refine T_putI (pc1 := 125) (pc := 122) k_Wr_go_122 rfl f_Wr_57 rfl (by first | assumption | exact ga G (by decide) rfl | exact lgA LG (by omega)) (by first | rfl | decide | assumption) (by first | rfl | decide | assumption) ?_
      | refine T_aload_n (pc1 := 126) (pc := 125) k_Wr_go_125 rfl rfl ?_
      | refine T_aload_nN (pc1 := 126) (pc := 125) k_Wr_go_125 rfl rfl ?_
      | refine T_dup (pc1 := 127) (pc := 126) k_Wr_go_126 rfl rfl ?_
      | refine T_getV (pc1 := 130) (pc := 127) k_Wr_go_127 rfl f_Wr_60 rfl (by first | assumption | exact ga G (by decide) rfl | exact lgA LG (by omega)) (by first | assumption | (simp (disch := omega) only [pI_eq, pI_row, pI_col, va_up_self, va_up_ne, ne_eq, not_false_eq_true, a4, a5, w1] <;> rfl) | rfl) ?_
      | refine T_aload (pc1 := 132) (pc := 130) k_Wr_go_130 rfl rfl ?_
      | refine T_aloadN (pc1 := 132) (pc := 130) k_Wr_go_130 rfl rfl ?_
      | refine T_getV (pc1 := 135) (pc := 132) k_Wr_go_132 rfl f_Wr_63 rfl (by first | assumption | exact ga G (by decide) rfl | exact lgA LG (by omega)) (by first | assumption | (simp (disch := omega) only [pI_eq, pI_row, pI_col, va_up_self, va_up_ne, ne_eq, not_false_eq_true, a4, a5, w1] <;> rfl) | rfl) ?_
      | with_reducible refine T_iaddN (pc1 := 136) (pc := 135) k_Wr_go_135 (by decide) ?_
      | refine T_iadd (pc1 := 136) (pc := 135) k_Wr_go_135 rfl ?_
      | refine T_putI (pc1 := 139) (pc := 136) k_Wr_go_136 rfl f_Wr_60 rfl (by first | assumption | exact ga G (by decide) rfl | exact lgA LG (by omega)) (by first | rfl | decide | assumption) (by first | rfl | decide | assumption) ?_
      | refine T_aload (pc1 := 141) (pc := 139) k_Wr_go_139 rfl rfl ?_
      | refine T_aloadN (pc1 := 141) (pc := 139) k_Wr_go_139 rfl rfl ?_
      | refine T_retI (pc := 144) k_Wr_go_144 rfl (by first | rfl | decide | assumption) ?_)
    refine kk _ (fr_pI (fr_pI hJ (Or.inl ⟨by omega, by omega⟩)) (Or.inl ⟨by omega, by omega⟩)) ⟨?_, ?_, ?_, ?_⟩
    · refine LTx_fr LT (fr_pI (fr_pI hJ (Or.inl ⟨by omega, by omega⟩)) (Or.inl ⟨by omega, by omega⟩)) (fun i => wf1_s g14) ?_ ?_ (fun k hk => (wkE_ne (by omega)).trans (hR k hk))
      · rw [pI_rw (by omega), pI_rw (by omega)]; exact e3
      · rw [pI_col (by decide), pI_col (by decide)]; exact a8
    · refine ⟨?_, ?_, ?_, fun b hb k hk => ?_⟩
      · rw [pI_col (by decide), pI_col (by decide)]; exact x1
      · rw [pI_col (by decide), pI_col (by decide), wkE_ne (by omega)]; exact x2
      · rw [pI_col (by decide), pI_col (by decide), wkE_ne (by omega)]; exact x3
      · rw [pI_row (by omega), pI_row (by omega)]
        unfold bf
        rw [wkE_ne (by omega)]
        exact x4 b hb k hk
    · refine ⟨?_, ?_, ?_, ?_, ?_, fun i hi => ?_⟩
      · rw [pI_row (by omega), pI_row (by omega), wkE_7]; exact w0
      · rw [pI_row (by omega), pI_row (by omega), wkE_8]; exact w1
      · rw [pI_row (by omega), pI_row (by omega), wkE_9]; exact w2
      · rw [pI_row (by omega), pI_row (by omega), wkE_10]; exact w3
      · rw [pI_row (by omega), pI_row (by omega), wkE_11]; exact hend
      · rw [wkE_9] at hi
        have hi : i < (nI tr).toNatClampNeg := hi
        rw [nI_clamp (by omega)] at hi
        rw [pI_row (by omega), pI_row (by omega), wkE_ne (by omega)]
        exact hrow i hi
    · refine ⟨?_, ?_, ?_⟩
      · rw [pI_col (by decide), pI_eq, wkE_1]
      · rw [pI_eq, wkE_2]
      · rw [pI_col (by decide), pI_col (by decide), wkE_ne (by omega)]; exact a6
  have loop : ∀ k at0 F mi tr st (R : Row) (J : IM) o7, k + tr = 61 → tr ≤ 60 → okL R n tn → (∀ j, 156 ≤ j → R j = N j) → (R 0 = N 0 ∧ R 1 = N 1 ∧ R 2 = N 2) → at0 < 8 → F < 16384 → mi ≤ 2000 * tr → fre (wf1 a) I J → J a = I a → J (a + 3) = I (a + 3) → LBt J a R n → WkS J a mi tr at0 → J (a + 4) 4 = nI 2 → (∀ i, i < tr → J (a + 5) i = R (96 + i)) → (∀ b, b < n → J 64 b = nI (cst R tn F b)) → (st = 1 ∨ (st = 0 ∧ ∀ v, v < 8 → J 65 v = nI (dst (ed R) (cst R tn F) n to0 v))) → wkf n tn to0 k at0 F mi tr R = Wr → Rl 6 M_Wr_go 23 [some (.ref 63), some (.ref a), some (.int (nI fr)), some (.int (nI to0)), some (.ref (a + 4)), some (.int (nI st)), some (.int (nI tr)), o7] [] g J K := by
    intro k
    induction k with
    | zero =>
      intro at0 F mi tr st R J o7 hk h60
      exfalso
      omega
    | succ k ih =>
      intro at0 F mi tr st R J o7 hk h60 okR hR h012 ha hF hmi hJ ea e3 hB hWk hend hrow hC hst hw
      obtain ⟨w0, w1, w2, w3⟩ := id hWk
      unfold wkf at hw
      by_cases hat : at0 = to0
      · rw [if_pos hat] at hw
        repeat' (first
          | (refine T_iload (pc1 := 25) (pc := 23) k_Wr_go_23 rfl rfl ?_ <;> try (refine T_bipush (v := (nI 60)) (pc1 := 27) (pc := 25) k_Wr_go_25 rfl (by decide) ?_ <;> try ((first | (with_reducible refine T_icmp_gtN (tgt := 115) (pc1 := 30) (pc := 27) k_Wr_go_27 (by decide) (by decide) (by omega) (by omega) (fun hc => ?_) (fun hc => ?_) <;> first | (exfalso; omega) | skip) | refine T_icmp_gt_t (tgt := 115) (pc := 27) k_Wr_go_27 rfl (by decide) ?_ | refine T_icmp_gt_f (tgt := 115) (pc1 := 30) (pc := 27) k_Wr_go_27 rfl rfl (by decide) ?_ | refine T_icmp_gt (tgt := 115) (pc1 := 30) (pc := 27) k_Wr_go_27 rfl rfl (fun hc => ?_) (fun hc => ?_)))))
          | ((first | refine T_aload (pc1 := 32) (pc := 30) k_Wr_go_30 rfl rfl ?_ | refine T_aloadN (pc1 := 32) (pc := 30) k_Wr_go_30 rfl rfl ?_) <;> try (refine T_getV (pc1 := 35) (pc := 32) k_Wr_go_32 rfl f_Wr_34 rfl (by first | assumption | exact ga G (by decide) rfl | exact lgA LG (by omega)) (by first | assumption | (simp (disch := omega) only [pI_eq, pI_row, pI_col, va_up_self, va_up_ne, ne_eq, not_false_eq_true, a4, a5, w1] <;> rfl) | rfl) ?_ <;> try (refine T_iload_n (pc1 := 36) (pc := 35) k_Wr_go_35 rfl rfl ?_ <;> try ((first | (with_reducible refine T_icmp_neN (tgt := 48) (pc1 := 39) (pc := 36) k_Wr_go_36 (by decide) (by decide) (by omega) (by omega) (fun hc => ?_) (fun hc => ?_) <;> first | (exfalso; omega) | skip) | refine T_icmp_ne_t (tgt := 48) (pc := 36) k_Wr_go_36 rfl (by decide) ?_ | refine T_icmp_ne_f (tgt := 48) (pc1 := 39) (pc := 36) k_Wr_go_36 rfl rfl (by decide) ?_ | refine T_icmp_ne (tgt := 48) (pc1 := 39) (pc := 36) k_Wr_go_36 rfl rfl (fun hc => ?_) (fun hc => ?_))))))
          | ((first | refine T_aload (pc1 := 41) (pc := 39) k_Wr_go_39 rfl rfl ?_ | refine T_aloadN (pc1 := 41) (pc := 39) k_Wr_go_39 rfl rfl ?_) <;> try (refine T_iconst (v := (nI 0)) (pc1 := 42) (pc := 41) k_Wr_go_41 rfl (by decide) ?_ <;> try (refine T_putI (pc1 := 45) (pc := 42) k_Wr_go_42 rfl f_Wr_38 rfl (by first | assumption | exact ga G (by decide) rfl | exact lgA LG (by omega)) (by first | rfl | decide | assumption) (by first | rfl | decide | assumption) ?_ <;> try (refine T_goto (tgt := 115) (pc := 45) k_Wr_go_45 rfl ?_))))
          | refine T_bipush (v := (nI 60)) (pc1 := 27) (pc := 25) k_Wr_go_25 rfl (by decide) ?_
          | (with_reducible refine T_icmp_gtN (tgt := 115) (pc1 := 30) (pc := 27) k_Wr_go_27 (by decide) (by decide) (by omega) (by omega) (fun hc => ?_) (fun hc => ?_) <;> first | (exfalso; omega) | skip)
          | refine T_icmp_gt_t (tgt := 115) (pc := 27) k_Wr_go_27 rfl (by decide) ?_
          | refine T_icmp_gt_f (tgt := 115) (pc1 := 30) (pc := 27) k_Wr_go_27 rfl rfl (by decide) ?_
          | refine T_icmp_gt (tgt := 115) (pc1 := 30) (pc := 27) k_Wr_go_27 rfl rfl (fun hc => ?_) (fun hc => ?_)
          | refine T_getV (pc1 := 35) (pc := 32) k_Wr_go_32 rfl f_Wr_34 rfl (by first | assumption | exact ga G (by decide) rfl | exact lgA LG (by omega)) (by first | assumption | (simp (disch := omega) only [pI_eq, pI_row, pI_col, va_up_self, va_up_ne, ne_eq, not_false_eq_true, a4, a5, w1] <;> rfl) | rfl) ?_
          | refine T_iload_n (pc1 := 36) (pc := 35) k_Wr_go_35 rfl rfl ?_
          | (with_reducible refine T_icmp_neN (tgt := 48) (pc1 := 39) (pc := 36) k_Wr_go_36 (by decide) (by decide) (by omega) (by omega) (fun hc => ?_) (fun hc => ?_) <;> first | (exfalso; omega) | skip)
          | refine T_icmp_ne_t (tgt := 48) (pc := 36) k_Wr_go_36 rfl (by decide) ?_
          | refine T_icmp_ne_f (tgt := 48) (pc1 := 39) (pc := 36) k_Wr_go_36 rfl rfl (by decide) ?_
          | refine T_icmp_ne (tgt := 48) (pc1 := 39) (pc := 36) k_Wr_go_36 rfl rfl (fun hc => ?_) (fun hc => ?_)
          | refine T_iconst (v := (nI 0)) (pc1 := 42) (pc := 41) k_Wr_go_41 rfl (by decide) ?_
          | refine T_putI (pc1 := 45) (pc := 42) k_Wr_go_42 rfl f_Wr_38 rfl (by first | assumption | exact ga G (by decide) rfl | exact lgA LG (by omega)) (by first | rfl | decide | assumption) (by first | rfl | decide | assumption) ?_
          | refine T_goto (tgt := 115) (pc := 45) k_Wr_go_45 rfl ?_)
        all_goals try (exfalso; omega)
        refine fin at0 0 mi tr R _ _ _ _ okR h60 hR h012 (fr_pI hJ (Or.inl ⟨by omega, by omega⟩)) ?_ ?_ ?_ ?_ pI_eq (fun i hi => ?_) hw
        · rw [pI_rw (by omega)]; exact ea
        · rw [pI_rw (by omega)]; exact e3
        · obtain ⟨x1, x2, x3, x4⟩ := hB
          exact ⟨by rw [pI_row (by omega)]; exact x1, by rw [pI_row (by omega)]; exact x2, by rw [pI_row (by omega)]; exact x3, fun b hb k hk => by rw [pI_row (by omega)]; exact x4 b hb k hk⟩
        · exact ⟨by rw [pI_col (by decide)]; exact w0, by rw [pI_col (by decide)]; exact w1, by rw [pI_col (by decide)]; exact w2, by rw [pI_col (by decide)]; exact w3⟩
        · rw [pI_row (by omega)]; exact hrow i hi
      · rw [if_neg hat] at hw
        have mid : ∀ (J : IM), fre (wf1 a) I J → J a = I a → J (a + 3) = I (a + 3) → LBt J a R n → WkS J a mi tr at0 → J (a + 4) 4 = nI 2 → (∀ i, i < tr → J (a + 5) i = R (96 + i)) → (∀ b, b < n → J 64 b = nI (cst R tn F b)) → (∀ v, v < 8 → J 65 v = nI (dst (ed R) (cst R tn F) n to0 v)) → Rl 6 M_Wr_go 59 [some (.ref 63), some (.ref a), some (.int (nI fr)), some (.int (nI to0)), some (.ref (a + 4)), some (.int (nI st)), some (.int (nI tr)), o7] [] g J K := by
          intro J hJ ea e3 hB hWk hend hrow hC hD
          obtain ⟨w0, w1, w2, w3⟩ := id hWk
          repeat' (first
            | ((first | refine T_aload_n (pc1 := 60) (pc := 59) k_Wr_go_59 rfl rfl ?_ | refine T_aload_nN (pc1 := 60) (pc := 59) k_Wr_go_59 rfl rfl ?_) <;> try ((first | refine T_aload_n (pc1 := 61) (pc := 60) k_Wr_go_60 rfl rfl ?_ | refine T_aload_nN (pc1 := 61) (pc := 60) k_Wr_go_60 rfl rfl ?_) <;> try ((first | refine T_aload (pc1 := 63) (pc := 61) k_Wr_go_61 rfl rfl ?_ | refine T_aloadN (pc1 := 63) (pc := 61) k_Wr_go_61 rfl rfl ?_) <;> try (refine T_getV (pc1 := 66) (pc := 63) k_Wr_go_63 rfl f_Wr_34 rfl (by first | assumption | exact ga G (by decide) rfl | exact lgA LG (by omega)) (by first | assumption | (simp (disch := omega) only [pI_eq, pI_row, pI_col, va_up_self, va_up_ne, ne_eq, not_false_eq_true, a4, a5, w1] <;> rfl) | rfl) ?_ <;> try ((refine T_cV (As := [_, _]) (d1 := 2) (pc1 := 69) (pc := 66) k_Wr_go_66 rfl (by decide) (Nat.le_of_ble_eq_true rfl) rfl o_Wr_firstBit l_Wr_45 rfl (by first | assumption | exact ga G (by decide) rfl | exact lgA LG (by omega)) rfl (c_Wr_firstBit (c := cst R tn F) (to0 := to0) G LG okR hB ha hC (fun b hb => cst_le okR hb) hD ?_) <;> try dsimp only [psh]))))))
            | refine T_aload_n (pc1 := 61) (pc := 60) k_Wr_go_60 rfl rfl ?_
            | refine T_aload_nN (pc1 := 61) (pc := 60) k_Wr_go_60 rfl rfl ?_
            | refine T_aload (pc1 := 63) (pc := 61) k_Wr_go_61 rfl rfl ?_
            | refine T_aloadN (pc1 := 63) (pc := 61) k_Wr_go_61 rfl rfl ?_
            | refine T_getV (pc1 := 66) (pc := 63) k_Wr_go_63 rfl f_Wr_34 rfl (by first | assumption | exact ga G (by decide) rfl | exact lgA LG (by omega)) (by first | assumption | (simp (disch := omega) only [pI_eq, pI_row, pI_col, va_up_self, va_up_ne, ne_eq, not_false_eq_true, a4, a5, w1] <;> rfl) | rfl) ?_
            | (refine T_cV (As := [_, _]) (d1 := 2) (pc1 := 69) (pc := 66) k_Wr_go_66 rfl (by decide) (Nat.le_of_ble_eq_true rfl) rfl o_Wr_firstBit l_Wr_45 rfl (by first | assumption | exact ga G (by decide) rfl | exact lgA LG (by omega)) rfl (c_Wr_firstBit (c := cst R tn F) (to0 := to0) G LG okR hB ha hC (fun b hb => cst_le okR hb) hD ?_) <;> try dsimp only [psh]))
          cases hnx : nxt R n (cst R tn F) at0 to0 with
          | none =>
            rw [hnx] at hw
            dsimp only at hw
            rw [show oNo none = cNONE from rfl]
            repeat' (first
              | (refine T_istore (pc1 := 71) (pc := 69) k_Wr_go_69 rfl (Nat.le_of_ble_eq_true rfl) ?_ <;> try (refine T_iload (pc1 := 73) (pc := 71) k_Wr_go_71 rfl rfl ?_ <;> try (refine T_ldc (v := (-1000000005)) (pc1 := 75) (pc := 73) k_Wr_go_73 rfl c_Wr_49 ?_ <;> try ((first | (with_reducible refine T_icmp_neN (tgt := 87) (pc1 := 78) (pc := 75) k_Wr_go_75 (by decide) (by decide) (by omega) (by omega) (fun hc => ?_) (fun hc => ?_) <;> first | (exfalso; omega) | skip) | refine T_icmp_ne_t (tgt := 87) (pc := 75) k_Wr_go_75 rfl (by decide) ?_ | refine T_icmp_ne_f (tgt := 87) (pc1 := 78) (pc := 75) k_Wr_go_75 rfl rfl (by decide) ?_ | refine T_icmp_ne (tgt := 87) (pc1 := 78) (pc := 75) k_Wr_go_75 rfl rfl (fun hc => ?_) (fun hc => ?_))))))
              | ((first | refine T_aload (pc1 := 80) (pc := 78) k_Wr_go_78 rfl rfl ?_ | refine T_aloadN (pc1 := 80) (pc := 78) k_Wr_go_78 rfl rfl ?_) <;> try (refine T_iconst (v := (nI 1)) (pc1 := 81) (pc := 80) k_Wr_go_80 rfl (by decide) ?_ <;> try (refine T_putI (pc1 := 84) (pc := 81) k_Wr_go_81 rfl f_Wr_38 rfl (by first | assumption | exact ga G (by decide) rfl | exact lgA LG (by omega)) (by first | rfl | decide | assumption) (by first | rfl | decide | assumption) ?_ <;> try (refine T_goto (tgt := 115) (pc := 84) k_Wr_go_84 rfl ?_))))
              | refine T_iload (pc1 := 73) (pc := 71) k_Wr_go_71 rfl rfl ?_
              | refine T_ldc (v := (-1000000005)) (pc1 := 75) (pc := 73) k_Wr_go_73 rfl c_Wr_49 ?_
              | (with_reducible refine T_icmp_neN (tgt := 87) (pc1 := 78) (pc := 75) k_Wr_go_75 (by decide) (by decide) (by omega) (by omega) (fun hc => ?_) (fun hc => ?_) <;> first | (exfalso; omega) | skip)
              | refine T_icmp_ne_t (tgt := 87) (pc := 75) k_Wr_go_75 rfl (by decide) ?_
              | refine T_icmp_ne_f (tgt := 87) (pc1 := 78) (pc := 75) k_Wr_go_75 rfl rfl (by decide) ?_
              | refine T_icmp_ne (tgt := 87) (pc1 := 78) (pc := 75) k_Wr_go_75 rfl rfl (fun hc => ?_) (fun hc => ?_)
              | refine T_iconst (v := (nI 1)) (pc1 := 81) (pc := 80) k_Wr_go_80 rfl (by decide) ?_
              | refine T_putI (pc1 := 84) (pc := 81) k_Wr_go_81 rfl f_Wr_38 rfl (by first | assumption | exact ga G (by decide) rfl | exact lgA LG (by omega)) (by first | rfl | decide | assumption) (by first | rfl | decide | assumption) ?_
              | refine T_goto (tgt := 115) (pc := 84) k_Wr_go_84 rfl ?_)
            refine fin at0 1 mi tr R _ _ _ _ okR h60 hR h012 (fr_pI hJ (Or.inl ⟨by omega, by omega⟩)) ?_ ?_ ?_ ?_ pI_eq (fun i hi => ?_) hw
            · rw [pI_rw (by omega)]; exact ea
            · rw [pI_rw (by omega)]; exact e3
            · obtain ⟨x1, x2, x3, x4⟩ := hB
              exact ⟨by rw [pI_row (by omega)]; exact x1, by rw [pI_row (by omega)]; exact x2, by rw [pI_row (by omega)]; exact x3, fun b hb k hk => by rw [pI_row (by omega)]; exact x4 b hb k hk⟩
            · exact ⟨by rw [pI_col (by decide)]; exact w0, by rw [pI_col (by decide)]; exact w1, by rw [pI_col (by decide)]; exact w2, by rw [pI_col (by decide)]; exact w3⟩
            · rw [pI_row (by omega)]; exact hrow i hi
          | some b =>
            rw [hnx] at hw
            dsimp only at hw
            obtain ⟨hbn, hcb, hend2⟩ := nxt_in hnx
            rw [show oNo (some b) = nI b from rfl]
            by_cases h60b : tr = 60
            · rw [if_pos h60b] at hw
              repeat' (first
                | (refine T_istore (pc1 := 71) (pc := 69) k_Wr_go_69 rfl (Nat.le_of_ble_eq_true rfl) ?_ <;> try (refine T_iload (pc1 := 73) (pc := 71) k_Wr_go_71 rfl rfl ?_ <;> try (refine T_ldc (v := (-1000000005)) (pc1 := 75) (pc := 73) k_Wr_go_73 rfl c_Wr_49 ?_ <;> try (refine T_icmp_ne_t (tgt := 87) (pc := 75) k_Wr_go_75 rfl (cne_nI (by omega)) ?_))))
                | ((first | refine T_aload (pc1 := 80) (pc := 78) k_Wr_go_78 rfl rfl ?_ | refine T_aloadN (pc1 := 80) (pc := 78) k_Wr_go_78 rfl rfl ?_) <;> try (refine T_iconst (v := (nI 1)) (pc1 := 81) (pc := 80) k_Wr_go_80 rfl (by decide) ?_ <;> try (refine T_putI (pc1 := 84) (pc := 81) k_Wr_go_81 rfl f_Wr_38 rfl (by first | assumption | exact ga G (by decide) rfl | exact lgA LG (by omega)) (by first | rfl | decide | assumption) (by first | rfl | decide | assumption) ?_ <;> try (refine T_goto (tgt := 115) (pc := 84) k_Wr_go_84 rfl ?_))))
                | ((first | refine T_aload (pc1 := 89) (pc := 87) k_Wr_go_87 rfl rfl ?_ | refine T_aloadN (pc1 := 89) (pc := 87) k_Wr_go_87 rfl rfl ?_) <;> try (refine T_getV (pc1 := 92) (pc := 89) k_Wr_go_89 rfl f_Wr_50 rfl (by first | assumption | exact ga G (by decide) rfl | exact lgA LG (by omega)) (by first | assumption | (simp (disch := omega) only [pI_eq, pI_row, pI_col, va_up_self, va_up_ne, ne_eq, not_false_eq_true, a4, a5, w1] <;> rfl) | rfl) ?_ <;> try (refine T_bipush (v := (nI 60)) (pc1 := 94) (pc := 92) k_Wr_go_92 rfl (by decide) ?_ <;> try ((first | (with_reducible refine T_icmp_ltN (tgt := 100) (pc1 := 97) (pc := 94) k_Wr_go_94 (by decide) (by decide) (by omega) (by omega) (fun hc => ?_) (fun hc => ?_) <;> first | (exfalso; omega) | skip) | refine T_icmp_lt_t (tgt := 100) (pc := 94) k_Wr_go_94 rfl (by decide) ?_ | refine T_icmp_lt_f (tgt := 100) (pc1 := 97) (pc := 94) k_Wr_go_94 rfl rfl (by decide) ?_ | refine T_icmp_lt (tgt := 100) (pc1 := 97) (pc := 94) k_Wr_go_94 rfl rfl (fun hc => ?_) (fun hc => ?_))))))
                | (refine T_goto (tgt := 115) (pc := 97) k_Wr_go_97 rfl ?_)
                | refine T_iload (pc1 := 73) (pc := 71) k_Wr_go_71 rfl rfl ?_
                | refine T_ldc (v := (-1000000005)) (pc1 := 75) (pc := 73) k_Wr_go_73 rfl c_Wr_49 ?_
                | refine T_icmp_ne_t (tgt := 87) (pc := 75) k_Wr_go_75 rfl (cne_nI (by omega)) ?_
                | refine T_iconst (v := (nI 1)) (pc1 := 81) (pc := 80) k_Wr_go_80 rfl (by decide) ?_
                | refine T_putI (pc1 := 84) (pc := 81) k_Wr_go_81 rfl f_Wr_38 rfl (by first | assumption | exact ga G (by decide) rfl | exact lgA LG (by omega)) (by first | rfl | decide | assumption) (by first | rfl | decide | assumption) ?_
                | refine T_goto (tgt := 115) (pc := 84) k_Wr_go_84 rfl ?_
                | refine T_getV (pc1 := 92) (pc := 89) k_Wr_go_89 rfl f_Wr_50 rfl (by first | assumption | exact ga G (by decide) rfl | exact lgA LG (by omega)) (by first | assumption | (simp (disch := omega) only [pI_eq, pI_row, pI_col, va_up_self, va_up_ne, ne_eq, not_false_eq_true, a4, a5, w1] <;> rfl) | rfl) ?_
                | refine T_bipush (v := (nI 60)) (pc1 := 94) (pc := 92) k_Wr_go_92 rfl (by decide) ?_
                | (with_reducible refine T_icmp_ltN (tgt := 100) (pc1 := 97) (pc := 94) k_Wr_go_94 (by decide) (by decide) (by omega) (by omega) (fun hc => ?_) (fun hc => ?_) <;> first | (exfalso; omega) | skip)
                | refine T_icmp_lt_t (tgt := 100) (pc := 94) k_Wr_go_94 rfl (by decide) ?_
                | refine T_icmp_lt_f (tgt := 100) (pc1 := 97) (pc := 94) k_Wr_go_94 rfl rfl (by decide) ?_
                | refine T_icmp_lt (tgt := 100) (pc1 := 97) (pc := 94) k_Wr_go_94 rfl rfl (fun hc => ?_) (fun hc => ?_))
              all_goals try (exfalso; omega)
              exact fin at0 2 mi tr R J _ _ _ okR h60 hR h012 hJ ea e3 hB hWk hend hrow hw
            · rw [if_neg h60b] at hw
              have LT2 : LTx g J a R tn := LTx_fr LT hJ (fun i => wf1_s g14) e3 (by rw [ea]) hR
              have bitF : ¬ F / 2 ^ b % 2 = 1 := fun q => hcb (by unfold cst; rw [if_pos q])
              repeat' (first
                | (refine T_istore (pc1 := 71) (pc := 69) k_Wr_go_69 rfl (Nat.le_of_ble_eq_true rfl) ?_ <;> try (refine T_iload (pc1 := 73) (pc := 71) k_Wr_go_71 rfl rfl ?_ <;> try (refine T_ldc (v := (-1000000005)) (pc1 := 75) (pc := 73) k_Wr_go_73 rfl c_Wr_49 ?_ <;> try (refine T_icmp_ne_t (tgt := 87) (pc := 75) k_Wr_go_75 rfl (cne_nI (by omega)) ?_))))
                | ((first | refine T_aload (pc1 := 80) (pc := 78) k_Wr_go_78 rfl rfl ?_ | refine T_aloadN (pc1 := 80) (pc := 78) k_Wr_go_78 rfl rfl ?_) <;> try (refine T_iconst (v := (nI 1)) (pc1 := 81) (pc := 80) k_Wr_go_80 rfl (by decide) ?_ <;> try (refine T_putI (pc1 := 84) (pc := 81) k_Wr_go_81 rfl f_Wr_38 rfl (by first | assumption | exact ga G (by decide) rfl | exact lgA LG (by omega)) (by first | rfl | decide | assumption) (by first | rfl | decide | assumption) ?_ <;> try (refine T_goto (tgt := 115) (pc := 84) k_Wr_go_84 rfl ?_))))
                | ((first | refine T_aload (pc1 := 89) (pc := 87) k_Wr_go_87 rfl rfl ?_ | refine T_aloadN (pc1 := 89) (pc := 87) k_Wr_go_87 rfl rfl ?_) <;> try (refine T_getV (pc1 := 92) (pc := 89) k_Wr_go_89 rfl f_Wr_50 rfl (by first | assumption | exact ga G (by decide) rfl | exact lgA LG (by omega)) (by first | assumption | (simp (disch := omega) only [pI_eq, pI_row, pI_col, va_up_self, va_up_ne, ne_eq, not_false_eq_true, a4, a5, w1] <;> rfl) | rfl) ?_ <;> try (refine T_bipush (v := (nI 60)) (pc1 := 94) (pc := 92) k_Wr_go_92 rfl (by decide) ?_ <;> try ((first | (with_reducible refine T_icmp_ltN (tgt := 100) (pc1 := 97) (pc := 94) k_Wr_go_94 (by decide) (by decide) (by omega) (by omega) (fun hc => ?_) (fun hc => ?_) <;> first | (exfalso; omega) | skip) | refine T_icmp_lt_t (tgt := 100) (pc := 94) k_Wr_go_94 rfl (by decide) ?_ | refine T_icmp_lt_f (tgt := 100) (pc1 := 97) (pc := 94) k_Wr_go_94 rfl rfl (by decide) ?_ | refine T_icmp_lt (tgt := 100) (pc1 := 97) (pc := 94) k_Wr_go_94 rfl rfl (fun hc => ?_) (fun hc => ?_))))))
                | (refine T_goto (tgt := 115) (pc := 97) k_Wr_go_97 rfl ?_)
                | ((first | refine T_aload_n (pc1 := 101) (pc := 100) k_Wr_go_100 rfl rfl ?_ | refine T_aload_nN (pc1 := 101) (pc := 100) k_Wr_go_100 rfl rfl ?_) <;> try ((first | refine T_aload_n (pc1 := 102) (pc := 101) k_Wr_go_101 rfl rfl ?_ | refine T_aload_nN (pc1 := 102) (pc := 101) k_Wr_go_101 rfl rfl ?_) <;> try (refine T_iload (pc1 := 104) (pc := 102) k_Wr_go_102 rfl rfl ?_ <;> try ((refine T_cV (As := [_, _]) (d1 := 5) (pc1 := 107) (pc := 104) k_Wr_go_104 rfl (by decide) (Nat.le_of_ble_eq_true rfl) rfl o_Wr_triesBit l_Wr_53 rfl (by first | assumption | exact ga G (by decide) rfl | exact lgA LG (by omega)) rfl (c_Wr_triesBit (c := cst R tn F) G LG okR LT2 hB hWk hbn ha (by omega) hmi hC (fun b hb => cst_le okR hb) (fun J2 hb1 hJ2 ea2 e32 e65 hbs hWk2 hend3 hrow2 h64 => ?_) (fun J2 hb1 hJ2 ea2 e32 e65 hB2 hWk2 hend3 hrow2 h64 => ?_)) <;> try dsimp only [psh]) <;> try (refine T_istore (pc1 := 109) (pc := 107) k_Wr_go_107 rfl (Nat.le_of_ble_eq_true rfl) ?_ <;> try ((first | refine T_iincN (b := 1) (pc1 := 112) (pc := 109) k_Wr_go_109 rfl rfl (by decide) ?_ | refine T_iinc (v := (nI 1)) (pc1 := 112) (pc := 109) k_Wr_go_109 rfl rfl (by decide) ?_) <;> try (refine T_goto (tgt := 23) (pc := 112) k_Wr_go_112 rfl ?_)))))))
                | refine T_iload (pc1 := 73) (pc := 71) k_Wr_go_71 rfl rfl ?_
                | refine T_ldc (v := (-1000000005)) (pc1 := 75) (pc := 73) k_Wr_go_73 rfl c_Wr_49 ?_
                | refine T_icmp_ne_t (tgt := 87) (pc := 75) k_Wr_go_75 rfl (cne_nI (by omega)) ?_
                | refine T_iconst (v := (nI 1)) (pc1 := 81) (pc := 80) k_Wr_go_80 rfl (by decide) ?_
                | refine T_putI (pc1 := 84) (pc := 81) k_Wr_go_81 rfl f_Wr_38 rfl (by first | assumption | exact ga G (by decide) rfl | exact lgA LG (by omega)) (by first | rfl | decide | assumption) (by first | rfl | decide | assumption) ?_
                | refine T_goto (tgt := 115) (pc := 84) k_Wr_go_84 rfl ?_
                | refine T_getV (pc1 := 92) (pc := 89) k_Wr_go_89 rfl f_Wr_50 rfl (by first | assumption | exact ga G (by decide) rfl | exact lgA LG (by omega)) (by first | assumption | (simp (disch := omega) only [pI_eq, pI_row, pI_col, va_up_self, va_up_ne, ne_eq, not_false_eq_true, a4, a5, w1] <;> rfl) | rfl) ?_
                | refine T_bipush (v := (nI 60)) (pc1 := 94) (pc := 92) k_Wr_go_92 rfl (by decide) ?_
                | (with_reducible refine T_icmp_ltN (tgt := 100) (pc1 := 97) (pc := 94) k_Wr_go_94 (by decide) (by decide) (by omega) (by omega) (fun hc => ?_) (fun hc => ?_) <;> first | (exfalso; omega) | skip)
                | refine T_icmp_lt_t (tgt := 100) (pc := 94) k_Wr_go_94 rfl (by decide) ?_
                | refine T_icmp_lt_f (tgt := 100) (pc1 := 97) (pc := 94) k_Wr_go_94 rfl rfl (by decide) ?_
                | refine T_icmp_lt (tgt := 100) (pc1 := 97) (pc := 94) k_Wr_go_94 rfl rfl (fun hc => ?_) (fun hc => ?_)
                | refine T_aload_n (pc1 := 102) (pc := 101) k_Wr_go_101 rfl rfl ?_
                | refine T_aload_nN (pc1 := 102) (pc := 101) k_Wr_go_101 rfl rfl ?_
                | refine T_iload (pc1 := 104) (pc := 102) k_Wr_go_102 rfl rfl ?_
                | (refine T_cV (As := [_, _]) (d1 := 5) (pc1 := 107) (pc := 104) k_Wr_go_104 rfl (by decide) (Nat.le_of_ble_eq_true rfl) rfl o_Wr_triesBit l_Wr_53 rfl (by first | assumption | exact ga G (by decide) rfl | exact lgA LG (by omega)) rfl (c_Wr_triesBit (c := cst R tn F) G LG okR LT2 hB hWk hbn ha (by omega) hmi hC (fun b hb => cst_le okR hb) (fun J2 hb1 hJ2 ea2 e32 e65 hbs hWk2 hend3 hrow2 h64 => ?_) (fun J2 hb1 hJ2 ea2 e32 e65 hB2 hWk2 hend3 hrow2 h64 => ?_)) <;> try dsimp only [psh])
                | refine T_istore (pc1 := 109) (pc := 107) k_Wr_go_107 rfl (Nat.le_of_ble_eq_true rfl) ?_
                | refine T_iincN (b := 1) (pc1 := 112) (pc := 109) k_Wr_go_109 rfl rfl (by decide) ?_
                | refine T_iinc (v := (nI 1)) (pc1 := 112) (pc := 109) k_Wr_go_109 rfl rfl (by decide) ?_
                | refine T_goto (tgt := 23) (pc := 112) k_Wr_go_112 rfl ?_)
              all_goals try (exfalso; omega)
              · -- barred
                rw [if_pos hb1] at hw
                have hp : 2 ^ b < 2 ^ 14 := Nat.pow_lt_pow_right (by decide) (by omega)
                have hoF : F ||| 2 ^ b < 2 ^ 14 := Nat.or_lt_two_pow hF hp
                refine ih at0 (F ||| 2 ^ b) (mi + 1) (tr + 1) 1 (va_up R (96 + tr) (nI b)) J2 _ (by omega) (by omega) (okL_up okR (by omega)) (fun j hj => by rw [va_up_ne _ _ (by omega)]; exact hR j hj) ⟨by rw [va_up_ne _ _ (by omega)]; exact h012.1, by rw [va_up_ne _ _ (by omega)]; exact h012.2.1, by rw [va_up_ne _ _ (by omega)]; exact h012.2.2⟩ ha hoF (by omega) (fr_tr hJ hJ2) (ea2.trans ea) (e32.trans e3) ?_ hWk2 (hend3.trans hend) (fun i hi => ?_) (fun j hj => ?_) (Or.inl rfl) hw
                · obtain ⟨x1, x2, x3, x4⟩ := hB
                  exact ⟨by rw [ea2]; exact x1, by rw [ea2, va_up_ne _ _ (by omega)]; exact x2, by rw [ea2, va_up_ne _ _ (by omega)]; exact x3, fun j hj k hk => by rw [hbs j hj, bf_up (by omega) (by omega) hk]; exact x4 j hj k hk⟩
                · rw [hrow2]
                  by_cases hit : i = tr
                  · subst hit; rw [va_up_self, va_up_self]
                  · rw [va_up_ne _ _ hit, va_up_ne _ _ (by omega)]; exact hrow i (by omega)
                · rw [h64, cst_up okR hj (by omega)]
                  by_cases hjb : j = b
                  · subst hjb
                    rw [va_up_self, cst, if_pos (or_tst.mpr (Or.inr rfl))]
                  · rw [va_up_ne _ _ hjb, hC j hj]
                    unfold cst
                    by_cases hFj : F / 2 ^ j % 2 = 1
                    · rw [if_pos hFj, if_pos (or_tst.mpr (Or.inl hFj))]
                    · rw [if_neg hFj, if_neg (fun q => (or_tst.mp q).elim hFj hjb)]
              · -- gone
                rw [if_neg (by rw [hb1]; decide)] at hw
                have okg := okL_go (tr := tr) okR hbn (by omega)
                have htk := tkk_eq okR hbn
                have hcost : ∀ j, j < n → J2 64 j = nI (cst (goN R tn b tr) tn F j) := fun j hj => by
                  rw [h64]
                  by_cases hjb : j = b
                  · subst hjb
                    rw [va_up_self, cst, if_neg bitF]
                  · rw [va_up_ne _ _ hjb, hC j hj, cst_go okR hbn hj (by omega) hjb]
                refine ih (oe R b at0) F (mi + tkk R tn b) (tr + 1) _ (goN R tn b tr) J2 _ (by omega) (by omega) okg (fun j hj => by rw [goN_ne (by omega) (by omega) (by omega)]; exact hR j hj) ⟨by rw [goN_ne (by omega) (by omega) (by omega)]; exact h012.1, by rw [goN_ne (by omega) (by omega) (by omega)]; exact h012.2.1, by rw [goN_ne (by omega) (by omega) (by omega)]; exact h012.2.2⟩ (oe_lt okR hbn) hF (by omega) (fr_tr hJ hJ2) (ea2.trans ea) (e32.trans e3) hB2 hWk2 (hend3.trans hend) (fun i hi => ?_) hcost ?_ hw
                · rw [hrow2]
                  by_cases hit : i = tr
                  · subst hit
                    rw [va_up_self]
                    unfold goN
                    rw [va_up_ne _ _ (by omega), va_up_ne _ _ (by omega), va_up_self]
                  · rw [va_up_ne _ _ hit, goN_ne (by omega) (by omega) (by omega)]; exact hrow i (by omega)
                · by_cases hsame : thk (goN R tn b tr) tn b = cst R tn F b
                  · rw [if_pos hsame]
                    refine Or.inr ⟨rfl, fun v hv8 => ?_⟩
                    rw [e65, hD v hv8]
                    rw [dst_congr (e := ed R) (e' := ed (goN R tn b tr)) (c := cst R tn F) (c' := cst (goN R tn b tr) tn F) (fun j hj => ⟨(ed_go okR hbn hj).symm, ?_⟩)]
                    by_cases hjb : j = b
                    · subst hjb
                      rw [← hsame]
                      show _ = (if F / 2 ^ j % 2 = 1 then 0 else thk (goN R tn j tr) tn j)
                      rw [if_neg bitF]
                    · exact (cst_go okR hbn hj (by omega) hjb).symm
                  · rw [if_neg hsame]
                    exact Or.inl rfl
        rcases hst with hst | ⟨hst, hD⟩
        · subst hst
          repeat' (first
            | (refine T_iload (pc1 := 25) (pc := 23) k_Wr_go_23 rfl rfl ?_ <;> try (refine T_bipush (v := (nI 60)) (pc1 := 27) (pc := 25) k_Wr_go_25 rfl (by decide) ?_ <;> try ((first | (with_reducible refine T_icmp_gtN (tgt := 115) (pc1 := 30) (pc := 27) k_Wr_go_27 (by decide) (by decide) (by omega) (by omega) (fun hc => ?_) (fun hc => ?_) <;> first | (exfalso; omega) | skip) | refine T_icmp_gt_t (tgt := 115) (pc := 27) k_Wr_go_27 rfl (by decide) ?_ | refine T_icmp_gt_f (tgt := 115) (pc1 := 30) (pc := 27) k_Wr_go_27 rfl rfl (by decide) ?_ | refine T_icmp_gt (tgt := 115) (pc1 := 30) (pc := 27) k_Wr_go_27 rfl rfl (fun hc => ?_) (fun hc => ?_)))))
            | ((first | refine T_aload (pc1 := 32) (pc := 30) k_Wr_go_30 rfl rfl ?_ | refine T_aloadN (pc1 := 32) (pc := 30) k_Wr_go_30 rfl rfl ?_) <;> try (refine T_getV (pc1 := 35) (pc := 32) k_Wr_go_32 rfl f_Wr_34 rfl (by first | assumption | exact ga G (by decide) rfl | exact lgA LG (by omega)) (by first | assumption | (simp (disch := omega) only [pI_eq, pI_row, pI_col, va_up_self, va_up_ne, ne_eq, not_false_eq_true, a4, a5, w1] <;> rfl) | rfl) ?_ <;> try (refine T_iload_n (pc1 := 36) (pc := 35) k_Wr_go_35 rfl rfl ?_ <;> try ((first | (with_reducible refine T_icmp_neN (tgt := 48) (pc1 := 39) (pc := 36) k_Wr_go_36 (by decide) (by decide) (by omega) (by omega) (fun hc => ?_) (fun hc => ?_) <;> first | (exfalso; omega) | skip) | refine T_icmp_ne_t (tgt := 48) (pc := 36) k_Wr_go_36 rfl (by decide) ?_ | refine T_icmp_ne_f (tgt := 48) (pc1 := 39) (pc := 36) k_Wr_go_36 rfl rfl (by decide) ?_ | refine T_icmp_ne (tgt := 48) (pc1 := 39) (pc := 36) k_Wr_go_36 rfl rfl (fun hc => ?_) (fun hc => ?_))))))
            | ((first | refine T_aload (pc1 := 41) (pc := 39) k_Wr_go_39 rfl rfl ?_ | refine T_aloadN (pc1 := 41) (pc := 39) k_Wr_go_39 rfl rfl ?_) <;> try (refine T_iconst (v := (nI 0)) (pc1 := 42) (pc := 41) k_Wr_go_41 rfl (by decide) ?_ <;> try (refine T_putI (pc1 := 45) (pc := 42) k_Wr_go_42 rfl f_Wr_38 rfl (by first | assumption | exact ga G (by decide) rfl | exact lgA LG (by omega)) (by first | rfl | decide | assumption) (by first | rfl | decide | assumption) ?_ <;> try (refine T_goto (tgt := 115) (pc := 45) k_Wr_go_45 rfl ?_))))
            | (refine T_iload (pc1 := 50) (pc := 48) k_Wr_go_48 rfl rfl ?_ <;> try ((first | (with_reducible refine T_if_eqN (tgt := 59) (pc1 := 53) (pc := 50) k_Wr_go_50 (by decide) (by decide) (by omega) (fun hc => ?_) (fun hc => ?_) <;> first | (exfalso; omega) | skip) | refine T_if_eq_t (tgt := 59) (pc := 50) k_Wr_go_50 rfl (by decide) ?_ | refine T_if_eq_f (tgt := 59) (pc1 := 53) (pc := 50) k_Wr_go_50 rfl rfl (by decide) ?_ | refine T_if_eq (tgt := 59) (pc1 := 53) (pc := 50) k_Wr_go_50 rfl rfl (fun hc => ?_) (fun hc => ?_))))
            | ((first | refine T_aload_n (pc1 := 54) (pc := 53) k_Wr_go_53 rfl rfl ?_ | refine T_aload_nN (pc1 := 54) (pc := 53) k_Wr_go_53 rfl rfl ?_) <;> try ((first | refine T_aload_n (pc1 := 55) (pc := 54) k_Wr_go_54 rfl rfl ?_ | refine T_aload_nN (pc1 := 55) (pc := 54) k_Wr_go_54 rfl rfl ?_) <;> try (refine T_iload_n (pc1 := 56) (pc := 55) k_Wr_go_55 rfl rfl ?_ <;> try ((refine T_cV (As := [_, _]) (d1 := 2) (pc1 := 59) (pc := 56) k_Wr_go_56 rfl (by decide) (Nat.le_of_ble_eq_true rfl) rfl o_Wr_measure l_Wr_41 rfl (by first | assumption | exact ga G (by decide) rfl | exact lgA LG (by omega)) rfl (c_Wr_measure (c := cst R tn F) G LG okR hB ht hC (fun b hb => cst_le okR hb) (fun J2 hJ2 hD => ?_)) <;> try dsimp only [psh])))))
            | refine T_bipush (v := (nI 60)) (pc1 := 27) (pc := 25) k_Wr_go_25 rfl (by decide) ?_
            | (with_reducible refine T_icmp_gtN (tgt := 115) (pc1 := 30) (pc := 27) k_Wr_go_27 (by decide) (by decide) (by omega) (by omega) (fun hc => ?_) (fun hc => ?_) <;> first | (exfalso; omega) | skip)
            | refine T_icmp_gt_t (tgt := 115) (pc := 27) k_Wr_go_27 rfl (by decide) ?_
            | refine T_icmp_gt_f (tgt := 115) (pc1 := 30) (pc := 27) k_Wr_go_27 rfl rfl (by decide) ?_
            | refine T_icmp_gt (tgt := 115) (pc1 := 30) (pc := 27) k_Wr_go_27 rfl rfl (fun hc => ?_) (fun hc => ?_)
            | refine T_getV (pc1 := 35) (pc := 32) k_Wr_go_32 rfl f_Wr_34 rfl (by first | assumption | exact ga G (by decide) rfl | exact lgA LG (by omega)) (by first | assumption | (simp (disch := omega) only [pI_eq, pI_row, pI_col, va_up_self, va_up_ne, ne_eq, not_false_eq_true, a4, a5, w1] <;> rfl) | rfl) ?_
            | refine T_iload_n (pc1 := 36) (pc := 35) k_Wr_go_35 rfl rfl ?_
            | (with_reducible refine T_icmp_neN (tgt := 48) (pc1 := 39) (pc := 36) k_Wr_go_36 (by decide) (by decide) (by omega) (by omega) (fun hc => ?_) (fun hc => ?_) <;> first | (exfalso; omega) | skip)
            | refine T_icmp_ne_t (tgt := 48) (pc := 36) k_Wr_go_36 rfl (by decide) ?_
            | refine T_icmp_ne_f (tgt := 48) (pc1 := 39) (pc := 36) k_Wr_go_36 rfl rfl (by decide) ?_
            | refine T_icmp_ne (tgt := 48) (pc1 := 39) (pc := 36) k_Wr_go_36 rfl rfl (fun hc => ?_) (fun hc => ?_)
            | refine T_iconst (v := (nI 0)) (pc1 := 42) (pc := 41) k_Wr_go_41 rfl (by decide) ?_
            | refine T_putI (pc1 := 45) (pc := 42) k_Wr_go_42 rfl f_Wr_38 rfl (by first | assumption | exact ga G (by decide) rfl | exact lgA LG (by omega)) (by first | rfl | decide | assumption) (by first | rfl | decide | assumption) ?_
            | refine T_goto (tgt := 115) (pc := 45) k_Wr_go_45 rfl ?_
            | (with_reducible refine T_if_eqN (tgt := 59) (pc1 := 53) (pc := 50) k_Wr_go_50 (by decide) (by decide) (by omega) (fun hc => ?_) (fun hc => ?_) <;> first | (exfalso; omega) | skip)
            | refine T_if_eq_t (tgt := 59) (pc := 50) k_Wr_go_50 rfl (by decide) ?_
            | refine T_if_eq_f (tgt := 59) (pc1 := 53) (pc := 50) k_Wr_go_50 rfl rfl (by decide) ?_
            | refine T_if_eq (tgt := 59) (pc1 := 53) (pc := 50) k_Wr_go_50 rfl rfl (fun hc => ?_) (fun hc => ?_)
            | refine T_aload_n (pc1 := 55) (pc := 54) k_Wr_go_54 rfl rfl ?_
            | refine T_aload_nN (pc1 := 55) (pc := 54) k_Wr_go_54 rfl rfl ?_
            | refine T_iload_n (pc1 := 56) (pc := 55) k_Wr_go_55 rfl rfl ?_
            | (refine T_cV (As := [_, _]) (d1 := 2) (pc1 := 59) (pc := 56) k_Wr_go_56 rfl (by decide) (Nat.le_of_ble_eq_true rfl) rfl o_Wr_measure l_Wr_41 rfl (by first | assumption | exact ga G (by decide) rfl | exact lgA LG (by omega)) rfl (c_Wr_measure (c := cst R tn F) G LG okR hB ht hC (fun b hb => cst_le okR hb) (fun J2 hJ2 hD => ?_)) <;> try dsimp only [psh]))
          all_goals try (exfalso; omega)
          have nk : ∀ i, i ≠ 65 → J2 i = J i := fun i hi => hJ2 i (by simpa using hi)
          refine mid J2 (fr_tr hJ (fr_x hJ2 (fun i hi => Or.inr (Or.inr (Or.inl (by simpa using hi)))))) ((nk _ (by omega)).trans ea) ((nk _ (by omega)).trans e3) ?_ ?_ (by rw [nk _ (by omega)]; exact hend) (fun i hi => by rw [nk _ (by omega)]; exact hrow i hi) (fun b hb => by rw [nk _ (by omega)]; exact hC b hb) hD
          · obtain ⟨x1, x2, x3, x4⟩ := hB
            exact ⟨by rw [nk _ (by omega)]; exact x1, by rw [nk _ (by omega)]; exact x2, by rw [nk _ (by omega)]; exact x3, fun b hb k hk => by rw [nk _ (by omega)]; exact x4 b hb k hk⟩
          · exact ⟨by rw [nk _ (by omega)]; exact w0, by rw [nk _ (by omega)]; exact w1, by rw [nk _ (by omega)]; exact w2, by rw [nk _ (by omega)]; exact w3⟩
        · subst hst
          have m0 := mid J hJ ea e3 hB hWk hend hrow hC hD
          repeat' (first
            | (refine T_iload (pc1 := 25) (pc := 23) k_Wr_go_23 rfl rfl ?_ <;> try (refine T_bipush (v := (nI 60)) (pc1 := 27) (pc := 25) k_Wr_go_25 rfl (by decide) ?_ <;> try ((first | (with_reducible refine T_icmp_gtN (tgt := 115) (pc1 := 30) (pc := 27) k_Wr_go_27 (by decide) (by decide) (by omega) (by omega) (fun hc => ?_) (fun hc => ?_) <;> first | (exfalso; omega) | skip) | refine T_icmp_gt_t (tgt := 115) (pc := 27) k_Wr_go_27 rfl (by decide) ?_ | refine T_icmp_gt_f (tgt := 115) (pc1 := 30) (pc := 27) k_Wr_go_27 rfl rfl (by decide) ?_ | refine T_icmp_gt (tgt := 115) (pc1 := 30) (pc := 27) k_Wr_go_27 rfl rfl (fun hc => ?_) (fun hc => ?_)))))
            | ((first | refine T_aload (pc1 := 32) (pc := 30) k_Wr_go_30 rfl rfl ?_ | refine T_aloadN (pc1 := 32) (pc := 30) k_Wr_go_30 rfl rfl ?_) <;> try (refine T_getV (pc1 := 35) (pc := 32) k_Wr_go_32 rfl f_Wr_34 rfl (by first | assumption | exact ga G (by decide) rfl | exact lgA LG (by omega)) (by first | assumption | (simp (disch := omega) only [pI_eq, pI_row, pI_col, va_up_self, va_up_ne, ne_eq, not_false_eq_true, a4, a5, w1] <;> rfl) | rfl) ?_ <;> try (refine T_iload_n (pc1 := 36) (pc := 35) k_Wr_go_35 rfl rfl ?_ <;> try ((first | (with_reducible refine T_icmp_neN (tgt := 48) (pc1 := 39) (pc := 36) k_Wr_go_36 (by decide) (by decide) (by omega) (by omega) (fun hc => ?_) (fun hc => ?_) <;> first | (exfalso; omega) | skip) | refine T_icmp_ne_t (tgt := 48) (pc := 36) k_Wr_go_36 rfl (by decide) ?_ | refine T_icmp_ne_f (tgt := 48) (pc1 := 39) (pc := 36) k_Wr_go_36 rfl rfl (by decide) ?_ | refine T_icmp_ne (tgt := 48) (pc1 := 39) (pc := 36) k_Wr_go_36 rfl rfl (fun hc => ?_) (fun hc => ?_))))))
            | ((first | refine T_aload (pc1 := 41) (pc := 39) k_Wr_go_39 rfl rfl ?_ | refine T_aloadN (pc1 := 41) (pc := 39) k_Wr_go_39 rfl rfl ?_) <;> try (refine T_iconst (v := (nI 0)) (pc1 := 42) (pc := 41) k_Wr_go_41 rfl (by decide) ?_ <;> try (refine T_putI (pc1 := 45) (pc := 42) k_Wr_go_42 rfl f_Wr_38 rfl (by first | assumption | exact ga G (by decide) rfl | exact lgA LG (by omega)) (by first | rfl | decide | assumption) (by first | rfl | decide | assumption) ?_ <;> try (refine T_goto (tgt := 115) (pc := 45) k_Wr_go_45 rfl ?_))))
            | (refine T_iload (pc1 := 50) (pc := 48) k_Wr_go_48 rfl rfl ?_ <;> try ((first | (with_reducible refine T_if_eqN (tgt := 59) (pc1 := 53) (pc := 50) k_Wr_go_50 (by decide) (by decide) (by omega) (fun hc => ?_) (fun hc => ?_) <;> first | (exfalso; omega) | skip) | refine T_if_eq_t (tgt := 59) (pc := 50) k_Wr_go_50 rfl (by decide) ?_ | refine T_if_eq_f (tgt := 59) (pc1 := 53) (pc := 50) k_Wr_go_50 rfl rfl (by decide) ?_ | refine T_if_eq (tgt := 59) (pc1 := 53) (pc := 50) k_Wr_go_50 rfl rfl (fun hc => ?_) (fun hc => ?_))))
            | refine T_bipush (v := (nI 60)) (pc1 := 27) (pc := 25) k_Wr_go_25 rfl (by decide) ?_
            | (with_reducible refine T_icmp_gtN (tgt := 115) (pc1 := 30) (pc := 27) k_Wr_go_27 (by decide) (by decide) (by omega) (by omega) (fun hc => ?_) (fun hc => ?_) <;> first | (exfalso; omega) | skip)
            | refine T_icmp_gt_t (tgt := 115) (pc := 27) k_Wr_go_27 rfl (by decide) ?_
            | refine T_icmp_gt_f (tgt := 115) (pc1 := 30) (pc := 27) k_Wr_go_27 rfl rfl (by decide) ?_
            | refine T_icmp_gt (tgt := 115) (pc1 := 30) (pc := 27) k_Wr_go_27 rfl rfl (fun hc => ?_) (fun hc => ?_)
            | refine T_getV (pc1 := 35) (pc := 32) k_Wr_go_32 rfl f_Wr_34 rfl (by first | assumption | exact ga G (by decide) rfl | exact lgA LG (by omega)) (by first | assumption | (simp (disch := omega) only [pI_eq, pI_row, pI_col, va_up_self, va_up_ne, ne_eq, not_false_eq_true, a4, a5, w1] <;> rfl) | rfl) ?_
            | refine T_iload_n (pc1 := 36) (pc := 35) k_Wr_go_35 rfl rfl ?_
            | (with_reducible refine T_icmp_neN (tgt := 48) (pc1 := 39) (pc := 36) k_Wr_go_36 (by decide) (by decide) (by omega) (by omega) (fun hc => ?_) (fun hc => ?_) <;> first | (exfalso; omega) | skip)
            | refine T_icmp_ne_t (tgt := 48) (pc := 36) k_Wr_go_36 rfl (by decide) ?_
            | refine T_icmp_ne_f (tgt := 48) (pc1 := 39) (pc := 36) k_Wr_go_36 rfl rfl (by decide) ?_
            | refine T_icmp_ne (tgt := 48) (pc1 := 39) (pc := 36) k_Wr_go_36 rfl rfl (fun hc => ?_) (fun hc => ?_)
            | refine T_iconst (v := (nI 0)) (pc1 := 42) (pc := 41) k_Wr_go_41 rfl (by decide) ?_
            | refine T_putI (pc1 := 45) (pc := 42) k_Wr_go_42 rfl f_Wr_38 rfl (by first | assumption | exact ga G (by decide) rfl | exact lgA LG (by omega)) (by first | rfl | decide | assumption) (by first | rfl | decide | assumption) ?_
            | refine T_goto (tgt := 115) (pc := 45) k_Wr_go_45 rfl ?_
            | (with_reducible refine T_if_eqN (tgt := 59) (pc1 := 53) (pc := 50) k_Wr_go_50 (by decide) (by decide) (by omega) (fun hc => ?_) (fun hc => ?_) <;> first | (exfalso; omega) | skip)
            | refine T_if_eq_t (tgt := 59) (pc := 50) k_Wr_go_50 rfl (by decide) ?_
            | refine T_if_eq_f (tgt := 59) (pc1 := 53) (pc := 50) k_Wr_go_50 rfl rfl (by decide) ?_
            | refine T_if_eq (tgt := 59) (pc1 := 53) (pc := 50) k_Wr_go_50 rfl rfl (fun hc => ?_) (fun hc => ?_))
          all_goals first | exact m0 | (exfalso; omega)
  repeat' (first
    | ((first | refine T_aload_n (pc1 := 1) (pc := 0) k_Wr_go_0 rfl rfl ?_ | refine T_aload_nN (pc1 := 1) (pc := 0) k_Wr_go_0 rfl rfl ?_) <;> try (refine T_getR (pc1 := 4) (pc := 1) k_Wr_go_1 rfl f_Wr_18 rfl (by first | assumption | exact ga G (by decide) rfl | exact lgA LG (by omega)) (by first | assumption | exact gr G (by decide) rfl | exact lgR LG (by omega)) ?_ <;> try ((first | refine T_astore (pc1 := 6) (pc := 4) k_Wr_go_4 rfl (Nat.le_of_ble_eq_true rfl) ?_ | refine T_astoreN (pc1 := 6) (pc := 4) k_Wr_go_4 rfl (Nat.le_of_ble_eq_true rfl) ?_) <;> try ((first | refine T_aload (pc1 := 8) (pc := 6) k_Wr_go_6 rfl rfl ?_ | refine T_aloadN (pc1 := 8) (pc := 6) k_Wr_go_6 rfl rfl ?_) <;> try (refine T_iload_n (pc1 := 9) (pc := 8) k_Wr_go_8 rfl rfl ?_ <;> try ((refine T_cV (As := [_]) (d1 := 1) (pc1 := 12) (pc := 9) k_Wr_go_9 rfl (by decide) (Nat.le_of_ble_eq_true rfl) rfl o_Wa_start l_Wr_24 rfl (by first | assumption | exact ga G (by decide) rfl | exact lgA LG (by omega)) rfl (c_Wa_start g5 ?_) <;> try dsimp only [psh]) <;> try ((first | refine T_aload_n (pc1 := 13) (pc := 12) k_Wr_go_12 rfl rfl ?_ | refine T_aload_nN (pc1 := 13) (pc := 12) k_Wr_go_12 rfl rfl ?_) <;> try ((first | refine T_aload_n (pc1 := 14) (pc := 13) k_Wr_go_13 rfl rfl ?_ | refine T_aload_nN (pc1 := 14) (pc := 13) k_Wr_go_13 rfl rfl ?_)))))))))
    | refine T_getR (pc1 := 4) (pc := 1) k_Wr_go_1 rfl f_Wr_18 rfl (by first | assumption | exact ga G (by decide) rfl | exact lgA LG (by omega)) (by first | assumption | exact gr G (by decide) rfl | exact lgR LG (by omega)) ?_
    | refine T_astore (pc1 := 6) (pc := 4) k_Wr_go_4 rfl (Nat.le_of_ble_eq_true rfl) ?_
    | refine T_astoreN (pc1 := 6) (pc := 4) k_Wr_go_4 rfl (Nat.le_of_ble_eq_true rfl) ?_
    | refine T_aload (pc1 := 8) (pc := 6) k_Wr_go_6 rfl rfl ?_
    | refine T_aloadN (pc1 := 8) (pc := 6) k_Wr_go_6 rfl rfl ?_
    | refine T_iload_n (pc1 := 9) (pc := 8) k_Wr_go_8 rfl rfl ?_
    | (refine T_cV (As := [_]) (d1 := 1) (pc1 := 12) (pc := 9) k_Wr_go_9 rfl (by decide) (Nat.le_of_ble_eq_true rfl) rfl o_Wa_start l_Wr_24 rfl (by first | assumption | exact ga G (by decide) rfl | exact lgA LG (by omega)) rfl (c_Wa_start g5 ?_) <;> try dsimp only [psh])
    | refine T_aload_n (pc1 := 13) (pc := 12) k_Wr_go_12 rfl rfl ?_
    | refine T_aload_nN (pc1 := 13) (pc := 12) k_Wr_go_12 rfl rfl ?_
    | refine T_aload_n (pc1 := 14) (pc := 13) k_Wr_go_13 rfl rfl ?_
    | refine T_aload_nN (pc1 := 14) (pc := 13) k_Wr_go_13 rfl rfl ?_)
  have nk : ∀ i, i ≠ a + 4 → pI (pI (pI (pI (pI I (a + 4) 0 (nI 1)) (a + 4) 1 (nI 0)) (a + 4) 2 (nI 0)) (a + 4) 3 (nI fr)) (a + 4) 4 (nI 2) i = I i := fun i hi => by
    rw [pI_rw hi, pI_rw hi, pI_rw hi, pI_rw hi, pI_rw hi]
  have frs : fre (wf1 a) I (pI (pI (pI (pI (pI I (a + 4) 0 (nI 1)) (a + 4) 1 (nI 0)) (a + 4) 2 (nI 0)) (a + 4) 3 (nI fr)) (a + 4) 4 (nI 2)) := fun i hi => nk i (fun q => hi (Or.inl ⟨by omega, by omega⟩))
  have k0 : pI (pI (pI (pI (pI I (a + 4) 0 (nI 1)) (a + 4) 1 (nI 0)) (a + 4) 2 (nI 0)) (a + 4) 3 (nI fr)) (a + 4) 4 (nI 2) (a + 4) 0 = nI 1 := by simp (disch := decide) only [pI_eq, pI_col, ne_eq]
  have k1 : pI (pI (pI (pI (pI I (a + 4) 0 (nI 1)) (a + 4) 1 (nI 0)) (a + 4) 2 (nI 0)) (a + 4) 3 (nI fr)) (a + 4) 4 (nI 2) (a + 4) 1 = nI 0 := by simp (disch := decide) only [pI_eq, pI_col, ne_eq]
  have k2 : pI (pI (pI (pI (pI I (a + 4) 0 (nI 1)) (a + 4) 1 (nI 0)) (a + 4) 2 (nI 0)) (a + 4) 3 (nI fr)) (a + 4) 4 (nI 2) (a + 4) 2 = nI 0 := by simp (disch := decide) only [pI_eq, pI_col, ne_eq]
  have k3 : pI (pI (pI (pI (pI I (a + 4) 0 (nI 1)) (a + 4) 1 (nI 0)) (a + 4) 2 (nI 0)) (a + 4) 3 (nI fr)) (a + 4) 4 (nI 2) (a + 4) 3 = nI fr := by simp (disch := decide) only [pI_eq, pI_col, ne_eq]
  have k4 : pI (pI (pI (pI (pI I (a + 4) 0 (nI 1)) (a + 4) 1 (nI 0)) (a + 4) 2 (nI 0)) (a + 4) 3 (nI fr)) (a + 4) 4 (nI 2) (a + 4) 4 = nI 2 := pI_eq
  generalize pI (pI (pI (pI (pI I (a + 4) 0 (nI 1)) (a + 4) 1 (nI 0)) (a + 4) 2 (nI 0)) (a + 4) 3 (nI fr)) (a + 4) 4 (nI 2) = J0 at *
  have LB0 : LBt J0 a N n := by
    obtain ⟨x1, x2, x3, x4⟩ := LB
    exact ⟨by rw [nk _ (by omega)]; exact x1, by rw [nk _ (by omega)]; exact x2, by rw [nk _ (by omega)]; exact x3, fun b hb k hk => by rw [nk _ (by omega)]; exact x4 b hb k hk⟩
  have LT0 : LTx g J0 a N tn := LTx_fr LT frs (fun i => wf1_s g14) (nk _ (by omega)) (by rw [nk _ (by omega)]) (fun _ _ => rfl)
  repeat' (first
    | ((refine T_cV (As := [_]) (d1 := 5) (pc1 := 17) (pc := 14) k_Wr_go_14 rfl (by decide) (Nat.le_of_ble_eq_true rfl) rfl o_Wr_weighByThought l_Wr_30 rfl (by first | assumption | exact ga G (by decide) rfl | exact lgA LG (by omega)) rfl (c_Wr_weighByThought G LG ok LT0 LB0 (fun J hJ hJc => ?_)) <;> try dsimp only [psh]) <;> try (refine T_iconst (v := (nI 1)) (pc1 := 18) (pc := 17) k_Wr_go_17 rfl (by decide) ?_ <;> try (refine T_istore (pc1 := 20) (pc := 18) k_Wr_go_18 rfl (Nat.le_of_ble_eq_true rfl) ?_ <;> try (refine T_iconst (v := (nI 0)) (pc1 := 21) (pc := 20) k_Wr_go_20 rfl (by decide) ?_ <;> try (refine T_istore (pc1 := 23) (pc := 21) k_Wr_go_21 rfl (Nat.le_of_ble_eq_true rfl) ?_)))))
    | refine T_iconst (v := (nI 1)) (pc1 := 18) (pc := 17) k_Wr_go_17 rfl (by decide) ?_
    | refine T_istore (pc1 := 20) (pc := 18) k_Wr_go_18 rfl (Nat.le_of_ble_eq_true rfl) ?_
    | refine T_iconst (v := (nI 0)) (pc1 := 21) (pc := 20) k_Wr_go_20 rfl (by decide) ?_
    | refine T_istore (pc1 := 23) (pc := 21) k_Wr_go_21 rfl (Nat.le_of_ble_eq_true rfl) ?_)
  have nc : ∀ i, i < 61 → J i = J0 i := fun i hi => hJ i (fun q => by unfold cf stk at q; omega)
  refine loop 61 fr 0 0 0 1 N J _ (by omega) (by omega) ok (fun _ _ => rfl) ⟨rfl, rfl, rfl⟩ hf (by decide) (by omega) (fr_tr frs (fr_mono hJ (fun i => cf_w))) ((nc _ (by omega)).trans (nk _ (by omega))) ((nc _ (by omega)).trans (nk _ (by omega))) (LBt_fr LB0 h14 hJ (fun i => cf_l g14)) ⟨by rw [nc _ (by omega)]; exact k0, by rw [nc _ (by omega)]; exact k1, by rw [nc _ (by omega)]; exact k2, by rw [nc _ (by omega)]; exact k3⟩ (by rw [nc _ (by omega)]; exact k4) (fun i hi => absurd hi (Nat.not_lt_zero _)) (fun b hb => by rw [hJc b hb, cst, if_neg (by rw [Nat.zero_div]; decide)]) (Or.inl rfl) hW
end C6
