/-! The model: kinds, texts, minutes. -/
section M2
variable {g : Geo} {I : IM} {K : Option Value → Geo → IM → Prop}
def abvI (k : Nat) : Int32 := match k with
  | 0 => -1
  | 3 => nI 1
  | 4 => nI 2
  | _ => nI 0
theorem c_M_above {k : Nat} (hk : k < 6) {v : Int32} (hv : abvI k = v) (kk : K (some (.int v)) g I) : Cl 1 M_M_above [.int (nI k)] g I K := by
  show Rl 1 M_M_above 0 [some (.int (nI k))] [] g I K
  obtain rfl | rfl | rfl | rfl | rfl | rfl : k = 0 ∨ k = 1 ∨ k = 2 ∨ k = 3 ∨ k = 4 ∨ k = 5 := by omega
  all_goals
    subst hv
    repeat' (first
      | refine T_iload_n (pc1 := 1) (pc := 0) k_M_above_0 rfl rfl ?_
      | (with_reducible refine T_if_neN (tgt := 8) (pc1 := 4) (pc := 1) k_M_above_1 (by decide) (by decide) (by omega) (fun hc => ?_) (fun hc => ?_) <;> first | (exfalso; omega) | skip)
      | refine T_if_ne_t (tgt := 8) (pc := 1) k_M_above_1 rfl (by decide) ?_
      | refine T_if_ne_f (tgt := 8) (pc1 := 4) (pc := 1) k_M_above_1 rfl rfl (by decide) ?_
      | refine T_if_ne (tgt := 8) (pc1 := 4) (pc := 1) k_M_above_1 rfl rfl (fun hc => ?_) (fun hc => ?_)
      | refine T_iconst (v := (-1)) (pc1 := 5) (pc := 4) k_M_above_4 rfl (by decide) ?_
      | refine T_goto (tgt := 27) (pc := 5) k_M_above_5 rfl ?_
      | refine T_iload_n (pc1 := 9) (pc := 8) k_M_above_8 rfl rfl ?_
      | refine T_iconst (v := (nI 3)) (pc1 := 10) (pc := 9) k_M_above_9 rfl (by decide) ?_
      | (with_reducible refine T_icmp_neN (tgt := 17) (pc1 := 13) (pc := 10) k_M_above_10 (by decide) (by decide) (by omega) (by omega) (fun hc => ?_) (fun hc => ?_) <;> first | (exfalso; omega) | skip)
      | refine T_icmp_ne_t (tgt := 17) (pc := 10) k_M_above_10 rfl (by decide) ?_
      | refine T_icmp_ne_f (tgt := 17) (pc1 := 13) (pc := 10) k_M_above_10 rfl rfl (by decide) ?_
      | refine T_icmp_ne (tgt := 17) (pc1 := 13) (pc := 10) k_M_above_10 rfl rfl (fun hc => ?_) (fun hc => ?_)
      | refine T_iconst (v := (nI 1)) (pc1 := 14) (pc := 13) k_M_above_13 rfl (by decide) ?_
      | refine T_goto (tgt := 27) (pc := 14) k_M_above_14 rfl ?_
      | refine T_iload_n (pc1 := 18) (pc := 17) k_M_above_17 rfl rfl ?_
      | refine T_iconst (v := (nI 4)) (pc1 := 19) (pc := 18) k_M_above_18 rfl (by decide) ?_
      | (with_reducible refine T_icmp_neN (tgt := 26) (pc1 := 22) (pc := 19) k_M_above_19 (by decide) (by decide) (by omega) (by omega) (fun hc => ?_) (fun hc => ?_) <;> first | (exfalso; omega) | skip)
      | refine T_icmp_ne_t (tgt := 26) (pc := 19) k_M_above_19 rfl (by decide) ?_
      | refine T_icmp_ne_f (tgt := 26) (pc1 := 22) (pc := 19) k_M_above_19 rfl rfl (by decide) ?_
      | refine T_icmp_ne (tgt := 26) (pc1 := 22) (pc := 19) k_M_above_19 rfl rfl (fun hc => ?_) (fun hc => ?_)
      | refine T_iconst (v := (nI 2)) (pc1 := 23) (pc := 22) k_M_above_22 rfl (by decide) ?_
      | refine T_goto (tgt := 27) (pc := 23) k_M_above_23 rfl ?_
      | refine T_iconst (v := (nI 0)) (pc1 := 27) (pc := 26) k_M_above_26 rfl (by decide) ?_
      | refine T_retI (pc := 27) k_M_above_27 rfl (by first | rfl | decide | assumption) ?_)
    exact kk
theorem c_M_isUnder {k o : Nat} (hk : k < 6) (ho : o < 6) (kt : und k o = true → K (some (.int (nI 1))) g I) (kf : und k o = false → K (some (.int (nI 0))) g I) : Cl 2 M_M_isUnder [.int (nI k), .int (nI o)] g I K := by
  show Rl 2 M_M_isUnder 0 [some (.int (nI k)), some (.int (nI o)), none] [] g I K
  obtain rfl | rfl | rfl | rfl | rfl | rfl : k = 0 ∨ k = 1 ∨ k = 2 ∨ k = 3 ∨ k = 4 ∨ k = 5 := by omega
  all_goals
    repeat' (first
      | refine T_iload_n (pc1 := 1) (pc := 0) k_M_isUnder_0 rfl rfl ?_
      | refine T_istore_n (pc1 := 2) (pc := 1) k_M_isUnder_1 rfl (Nat.le_of_ble_eq_true rfl) ?_
      | refine T_iload_n (pc1 := 3) (pc := 2) k_M_isUnder_2 rfl rfl ?_
      | (with_reducible refine T_if_ltN (tgt := 19) (pc1 := 6) (pc := 3) k_M_isUnder_3 (by decide) (by decide) (by omega) ?_ <;> first | (exfalso; omega) | skip)
      | refine T_if_lt_t (tgt := 19) (pc := 3) k_M_isUnder_3 rfl (by decide) ?_
      | refine T_if_lt_f (tgt := 19) (pc1 := 6) (pc := 3) k_M_isUnder_3 rfl rfl (by decide) ?_
      | refine T_if_lt (tgt := 19) (pc1 := 6) (pc := 3) k_M_isUnder_3 rfl rfl (fun hc => ?_) (fun hc => ?_)
      | refine T_iload_n (pc1 := 7) (pc := 6) k_M_isUnder_6 rfl rfl ?_
      | refine T_iload_n (pc1 := 8) (pc := 7) k_M_isUnder_7 rfl rfl ?_
      | (with_reducible refine T_icmp_eqN (tgt := 19) (pc1 := 11) (pc := 8) k_M_isUnder_8 (by decide) (by decide) (by omega) (by omega) (fun hc => ?_) (fun hc => ?_) <;> first | (exfalso; omega) | skip)
      | refine T_icmp_eq_t (tgt := 19) (pc := 8) k_M_isUnder_8 rfl (by decide) ?_
      | refine T_icmp_eq_f (tgt := 19) (pc1 := 11) (pc := 8) k_M_isUnder_8 rfl rfl (by decide) ?_
      | refine T_icmp_eq (tgt := 19) (pc1 := 11) (pc := 8) k_M_isUnder_8 rfl rfl (fun hc => ?_) (fun hc => ?_)
      | refine T_iload_n (pc1 := 12) (pc := 11) k_M_isUnder_11 rfl rfl ?_
      | (refine T_cS (As := [_]) (d1 := 1) (pc1 := 15) (pc := 12) k_M_isUnder_12 rfl (by decide) (Nat.le_of_ble_eq_true rfl) rfl o_M_above l_M_117 rfl (c_M_above (by omega) (by first | exact (rfl : _ = nI 0) | exact (rfl : _ = nI 1) | exact (rfl : _ = nI 2) | exact (rfl : _ = (-1 : Int32))) ?_) <;> try dsimp only [psh])
      | refine T_istore_n (pc1 := 16) (pc := 15) k_M_isUnder_15 rfl (Nat.le_of_ble_eq_true rfl) ?_
      | refine T_goto (tgt := 2) (pc := 16) k_M_isUnder_16 rfl ?_
      | refine T_iload_n (pc1 := 20) (pc := 19) k_M_isUnder_19 rfl rfl ?_
      | (with_reducible refine T_if_ltN (tgt := 27) (pc1 := 23) (pc := 20) k_M_isUnder_20 (by decide) (by decide) (by omega) ?_ <;> first | (exfalso; omega) | skip)
      | refine T_if_lt_t (tgt := 27) (pc := 20) k_M_isUnder_20 rfl (by decide) ?_
      | refine T_if_lt_f (tgt := 27) (pc1 := 23) (pc := 20) k_M_isUnder_20 rfl rfl (by decide) ?_
      | refine T_if_lt (tgt := 27) (pc1 := 23) (pc := 20) k_M_isUnder_20 rfl rfl (fun hc => ?_) (fun hc => ?_)
      | refine T_iconst (v := (nI 1)) (pc1 := 24) (pc := 23) k_M_isUnder_23 rfl (by decide) ?_
      | refine T_goto (tgt := 28) (pc := 24) k_M_isUnder_24 rfl ?_
      | refine T_iconst (v := (nI 0)) (pc1 := 28) (pc := 27) k_M_isUnder_27 rfl (by decide) ?_
      | refine T_retI (pc := 28) k_M_isUnder_28 rfl (by first | rfl | decide | assumption) ?_)
    all_goals first
      | exact kt (by simp only [und]; simp; omega)
      | exact kf (by simp only [und]; simp; omega)
theorem c_M_counting {N : Row} {key tn : Nat} (G : GeoOK g) (hN : I 102 = N) (ht : N 6 = nI tn) (h14 : tn ≤ 14) {v : Int32} (hv : opt1 (txt N key tn) = v) (kk : K (some (.int v)) g I) : Cl 1 M_M_counting [.ref 101, .int (nI key)] g I K := by
  show Rl 1 M_M_counting 0 [some (.ref 101), some (.int (nI key)), none, none] [] g I K
  have loop : ∀ j t, t + j = tn → Rl 1 M_M_counting 4 [some (.ref 101), some (.int (nI key)), some (.int (opt1 (txt N key t))), some (.int (nI t))] [] g I K := by
    intro j
    induction j with
    | zero =>
      intro t h
      have h : t = tn := by omega
      subst h
      rw [hv]
      repeat' (first
        | refine T_iconst (v := (-1)) (pc1 := 1) (pc := 0) k_M_counting_0 rfl (by decide) ?_
        | refine T_istore_n (pc1 := 2) (pc := 1) k_M_counting_1 rfl (Nat.le_of_ble_eq_true rfl) ?_
        | refine T_iconst (v := (nI 0)) (pc1 := 3) (pc := 2) k_M_counting_2 rfl (by decide) ?_
        | refine T_istore_n (pc1 := 4) (pc := 3) k_M_counting_3 rfl (Nat.le_of_ble_eq_true rfl) ?_
        | refine T_iload_n (pc1 := 5) (pc := 4) k_M_counting_4 rfl rfl ?_
        | refine T_aload_n (pc1 := 6) (pc := 5) k_M_counting_5 rfl rfl ?_
        | refine T_aload_nN (pc1 := 6) (pc := 5) k_M_counting_5 rfl rfl ?_
        | refine T_getR (pc1 := 9) (pc := 6) k_M_counting_6 rfl f_M_9 rfl (by first | exact ga G (by decide) rfl | assumption) (by first | exact gr G (by decide) rfl | assumption) ?_
        | refine T_bipush (v := (nI 6)) (pc1 := 11) (pc := 9) k_M_counting_9 rfl (by decide) ?_
        | refine T_ialdN (pc1 := 12) (pc := 11) k_M_counting_11 rfl (by first | exact ga G (by decide) rfl | assumption) (by omega) (by omega) (by first | assumption | (simp (disch := omega) only [pI_eq, pI_row, pI_col, va_up_self, va_up_ne, ne_eq, not_false_eq_true, hN, ht] <;> rfl) | rfl) ?_
        | refine T_iald (pc1 := 12) (pc := 11) k_M_counting_11 rfl (by first | exact ga G (by decide) rfl | assumption) (by assumption) ?_
        | (with_reducible refine T_icmp_geN (tgt := 46) (pc1 := 15) (pc := 12) k_M_counting_12 (by decide) (by decide) (by omega) (by omega) (fun hc => ?_) (fun hc => ?_) <;> first | (exfalso; omega) | skip)
        | refine T_icmp_ge_t (tgt := 46) (pc := 12) k_M_counting_12 rfl (by decide) ?_
        | refine T_icmp_ge_f (tgt := 46) (pc1 := 15) (pc := 12) k_M_counting_12 rfl rfl (by decide) ?_
        | refine T_icmp_ge (tgt := 46) (pc1 := 15) (pc := 12) k_M_counting_12 rfl rfl (fun hc => ?_) (fun hc => ?_)
        | refine T_aload_n (pc1 := 16) (pc := 15) k_M_counting_15 rfl rfl ?_
        | refine T_aload_nN (pc1 := 16) (pc := 15) k_M_counting_15 rfl rfl ?_
        | refine T_getR (pc1 := 19) (pc := 16) k_M_counting_16 rfl f_M_9 rfl (by first | exact ga G (by decide) rfl | assumption) (by first | exact gr G (by decide) rfl | assumption) ?_
        | refine T_sipush (v := (nI 156)) (pc1 := 22) (pc := 19) k_M_counting_19 rfl (by decide) ?_
        | refine T_bipush (v := (nI 100)) (pc1 := 24) (pc := 22) k_M_counting_22 rfl (by decide) ?_
        | refine T_iload_n (pc1 := 25) (pc := 24) k_M_counting_24 rfl rfl ?_
        | with_reducible refine T_imulN (pc1 := 26) (pc := 25) k_M_counting_25 (by decide) ?_
        | refine T_imul (pc1 := 26) (pc := 25) k_M_counting_25 rfl ?_
        | with_reducible refine T_iaddN (pc1 := 27) (pc := 26) k_M_counting_26 (by decide) ?_
        | refine T_iadd (pc1 := 27) (pc := 26) k_M_counting_26 rfl ?_
        | refine T_iconst (v := (nI 0)) (pc1 := 28) (pc := 27) k_M_counting_27 rfl (by decide) ?_
        | with_reducible refine T_iaddN (pc1 := 29) (pc := 28) k_M_counting_28 (by decide) ?_
        | refine T_iadd (pc1 := 29) (pc := 28) k_M_counting_28 rfl ?_
        | refine T_ialdN (pc1 := 30) (pc := 29) k_M_counting_29 rfl (by first | exact ga G (by decide) rfl | assumption) (by omega) (by omega) (by first | assumption | (simp (disch := omega) only [pI_eq, pI_row, pI_col, va_up_self, va_up_ne, ne_eq, not_false_eq_true, hN, ht] <;> rfl) | rfl) ?_
        | refine T_iald (pc1 := 30) (pc := 29) k_M_counting_29 rfl (by first | exact ga G (by decide) rfl | assumption) (by assumption) ?_
        | refine T_iload_n (pc1 := 31) (pc := 30) k_M_counting_30 rfl rfl ?_
        | (with_reducible refine T_icmp_neN (tgt := 38) (pc1 := 34) (pc := 31) k_M_counting_31 (by decide) (by decide) (by omega) (by omega) (fun hc => ?_) (fun hc => ?_) <;> first | (exfalso; omega) | skip)
        | refine T_icmp_ne_t (tgt := 38) (pc := 31) k_M_counting_31 rfl (by decide) ?_
        | refine T_icmp_ne_f (tgt := 38) (pc1 := 34) (pc := 31) k_M_counting_31 rfl rfl (by decide) ?_
        | refine T_icmp_ne (tgt := 38) (pc1 := 34) (pc := 31) k_M_counting_31 rfl rfl (fun hc => ?_) (fun hc => ?_)
        | refine T_iload_n (pc1 := 35) (pc := 34) k_M_counting_34 rfl rfl ?_
        | refine T_goto (tgt := 39) (pc := 35) k_M_counting_35 rfl ?_
        | refine T_iload_n (pc1 := 39) (pc := 38) k_M_counting_38 rfl rfl ?_
        | refine T_istore_n (pc1 := 40) (pc := 39) k_M_counting_39 rfl (Nat.le_of_ble_eq_true rfl) ?_
        | refine T_iincN (b := 1) (pc1 := 43) (pc := 40) k_M_counting_40 rfl rfl (by decide) ?_
        | refine T_iinc (v := (nI 1)) (pc1 := 43) (pc := 40) k_M_counting_40 rfl rfl (by decide) ?_
        | refine T_goto (tgt := 4) (pc := 43) k_M_counting_43 rfl ?_
        | refine T_iload_n (pc1 := 47) (pc := 46) k_M_counting_46 rfl rfl ?_
        | refine T_retI (pc := 47) k_M_counting_47 rfl (by first | rfl | decide | assumption) ?_)
      exact kk
    | succ j ih =>
      intro t h
      refine T_iload_n (pc1 := 5) (pc := 4) k_M_counting_4 rfl rfl ?_
      repeat' (first
        | refine T_iconst (v := (-1)) (pc1 := 1) (pc := 0) k_M_counting_0 rfl (by decide) ?_
        | refine T_istore_n (pc1 := 2) (pc := 1) k_M_counting_1 rfl (Nat.le_of_ble_eq_true rfl) ?_
        | refine T_iconst (v := (nI 0)) (pc1 := 3) (pc := 2) k_M_counting_2 rfl (by decide) ?_
        | refine T_istore_n (pc1 := 4) (pc := 3) k_M_counting_3 rfl (Nat.le_of_ble_eq_true rfl) ?_
        | refine T_aload_n (pc1 := 6) (pc := 5) k_M_counting_5 rfl rfl ?_
        | refine T_aload_nN (pc1 := 6) (pc := 5) k_M_counting_5 rfl rfl ?_
        | refine T_getR (pc1 := 9) (pc := 6) k_M_counting_6 rfl f_M_9 rfl (by first | exact ga G (by decide) rfl | assumption) (by first | exact gr G (by decide) rfl | assumption) ?_
        | refine T_bipush (v := (nI 6)) (pc1 := 11) (pc := 9) k_M_counting_9 rfl (by decide) ?_
        | refine T_ialdN (pc1 := 12) (pc := 11) k_M_counting_11 rfl (by first | exact ga G (by decide) rfl | assumption) (by omega) (by omega) (by first | assumption | (simp (disch := omega) only [pI_eq, pI_row, pI_col, va_up_self, va_up_ne, ne_eq, not_false_eq_true, hN, ht] <;> rfl) | rfl) ?_
        | refine T_iald (pc1 := 12) (pc := 11) k_M_counting_11 rfl (by first | exact ga G (by decide) rfl | assumption) (by assumption) ?_
        | (with_reducible refine T_icmp_geN (tgt := 46) (pc1 := 15) (pc := 12) k_M_counting_12 (by decide) (by decide) (by omega) (by omega) (fun hc => ?_) (fun hc => ?_) <;> first | (exfalso; omega) | skip)
        | refine T_icmp_ge_t (tgt := 46) (pc := 12) k_M_counting_12 rfl (by decide) ?_
        | refine T_icmp_ge_f (tgt := 46) (pc1 := 15) (pc := 12) k_M_counting_12 rfl rfl (by decide) ?_
        | refine T_icmp_ge (tgt := 46) (pc1 := 15) (pc := 12) k_M_counting_12 rfl rfl (fun hc => ?_) (fun hc => ?_)
        | refine T_aload_n (pc1 := 16) (pc := 15) k_M_counting_15 rfl rfl ?_
        | refine T_aload_nN (pc1 := 16) (pc := 15) k_M_counting_15 rfl rfl ?_
        | refine T_getR (pc1 := 19) (pc := 16) k_M_counting_16 rfl f_M_9 rfl (by first | exact ga G (by decide) rfl | assumption) (by first | exact gr G (by decide) rfl | assumption) ?_
        | refine T_sipush (v := (nI 156)) (pc1 := 22) (pc := 19) k_M_counting_19 rfl (by decide) ?_
        | refine T_bipush (v := (nI 100)) (pc1 := 24) (pc := 22) k_M_counting_22 rfl (by decide) ?_
        | refine T_iload_n (pc1 := 25) (pc := 24) k_M_counting_24 rfl rfl ?_
        | with_reducible refine T_imulN (pc1 := 26) (pc := 25) k_M_counting_25 (by decide) ?_
        | refine T_imul (pc1 := 26) (pc := 25) k_M_counting_25 rfl ?_
        | with_reducible refine T_iaddN (pc1 := 27) (pc := 26) k_M_counting_26 (by decide) ?_
        | refine T_iadd (pc1 := 27) (pc := 26) k_M_counting_26 rfl ?_
        | refine T_iconst (v := (nI 0)) (pc1 := 28) (pc := 27) k_M_counting_27 rfl (by decide) ?_
        | with_reducible refine T_iaddN (pc1 := 29) (pc := 28) k_M_counting_28 (by decide) ?_
        | refine T_iadd (pc1 := 29) (pc := 28) k_M_counting_28 rfl ?_
        | refine T_ialdN (pc1 := 30) (pc := 29) k_M_counting_29 rfl (by first | exact ga G (by decide) rfl | assumption) (by omega) (by omega) (by first | assumption | (simp (disch := omega) only [pI_eq, pI_row, pI_col, va_up_self, va_up_ne, ne_eq, not_false_eq_true, hN, ht] <;> rfl) | rfl) ?_
        | refine T_iald (pc1 := 30) (pc := 29) k_M_counting_29 rfl (by first | exact ga G (by decide) rfl | assumption) (by assumption) ?_
        | refine T_iload_n (pc1 := 31) (pc := 30) k_M_counting_30 rfl rfl ?_
        | (with_reducible refine T_icmp_neN (tgt := 38) (pc1 := 34) (pc := 31) k_M_counting_31 (by decide) (by decide) (by omega) (by omega) (fun hc => ?_) (fun hc => ?_) <;> first | (exfalso; omega) | skip)
        | refine T_icmp_ne_t (tgt := 38) (pc := 31) k_M_counting_31 rfl (by decide) ?_
        | refine T_icmp_ne_f (tgt := 38) (pc1 := 34) (pc := 31) k_M_counting_31 rfl rfl (by decide) ?_
        | refine T_icmp_ne (tgt := 38) (pc1 := 34) (pc := 31) k_M_counting_31 rfl rfl (fun hc => ?_) (fun hc => ?_)
        | refine T_iload_n (pc1 := 35) (pc := 34) k_M_counting_34 rfl rfl ?_
        | refine T_goto (tgt := 39) (pc := 35) k_M_counting_35 rfl ?_
        | refine T_iload_n (pc1 := 39) (pc := 38) k_M_counting_38 rfl rfl ?_
        | refine T_istore_n (pc1 := 40) (pc := 39) k_M_counting_39 rfl (Nat.le_of_ble_eq_true rfl) ?_
        | refine T_iincN (b := 1) (pc1 := 43) (pc := 40) k_M_counting_40 rfl rfl (by decide) ?_
        | refine T_iinc (v := (nI 1)) (pc1 := 43) (pc := 40) k_M_counting_40 rfl rfl (by decide) ?_
        | refine T_goto (tgt := 4) (pc := 43) k_M_counting_43 rfl ?_
        | refine T_iload_n (pc1 := 47) (pc := 46) k_M_counting_46 rfl rfl ?_
        | refine T_retI (pc := 47) k_M_counting_47 rfl (by first | rfl | decide | assumption) ?_)
      · have e := ih (t + 1) (by omega)
        rw [Nat.add_zero] at hc
        rw [txt, if_neg hc] at e
        exact e
      · have e := ih (t + 1) (by omega)
        rw [Nat.add_zero] at hc
        rw [txt, if_pos (Decidable.not_not.mp hc)] at e
        exact e
  repeat' (first
    | refine T_iconst (v := (-1)) (pc1 := 1) (pc := 0) k_M_counting_0 rfl (by decide) ?_
    | refine T_istore_n (pc1 := 2) (pc := 1) k_M_counting_1 rfl (Nat.le_of_ble_eq_true rfl) ?_
    | refine T_iconst (v := (nI 0)) (pc1 := 3) (pc := 2) k_M_counting_2 rfl (by decide) ?_
    | refine T_istore_n (pc1 := 4) (pc := 3) k_M_counting_3 rfl (Nat.le_of_ble_eq_true rfl) ?_
    | refine T_aload_n (pc1 := 6) (pc := 5) k_M_counting_5 rfl rfl ?_
    | refine T_aload_nN (pc1 := 6) (pc := 5) k_M_counting_5 rfl rfl ?_
    | refine T_getR (pc1 := 9) (pc := 6) k_M_counting_6 rfl f_M_9 rfl (by first | exact ga G (by decide) rfl | assumption) (by first | exact gr G (by decide) rfl | assumption) ?_
    | refine T_bipush (v := (nI 6)) (pc1 := 11) (pc := 9) k_M_counting_9 rfl (by decide) ?_
    | refine T_ialdN (pc1 := 12) (pc := 11) k_M_counting_11 rfl (by first | exact ga G (by decide) rfl | assumption) (by omega) (by omega) (by first | assumption | (simp (disch := omega) only [pI_eq, pI_row, pI_col, va_up_self, va_up_ne, ne_eq, not_false_eq_true, hN, ht] <;> rfl) | rfl) ?_
    | refine T_iald (pc1 := 12) (pc := 11) k_M_counting_11 rfl (by first | exact ga G (by decide) rfl | assumption) (by assumption) ?_
    | (with_reducible refine T_icmp_geN (tgt := 46) (pc1 := 15) (pc := 12) k_M_counting_12 (by decide) (by decide) (by omega) (by omega) (fun hc => ?_) (fun hc => ?_) <;> first | (exfalso; omega) | skip)
    | refine T_icmp_ge_t (tgt := 46) (pc := 12) k_M_counting_12 rfl (by decide) ?_
    | refine T_icmp_ge_f (tgt := 46) (pc1 := 15) (pc := 12) k_M_counting_12 rfl rfl (by decide) ?_
    | refine T_icmp_ge (tgt := 46) (pc1 := 15) (pc := 12) k_M_counting_12 rfl rfl (fun hc => ?_) (fun hc => ?_)
    | refine T_aload_n (pc1 := 16) (pc := 15) k_M_counting_15 rfl rfl ?_
    | refine T_aload_nN (pc1 := 16) (pc := 15) k_M_counting_15 rfl rfl ?_
    | refine T_getR (pc1 := 19) (pc := 16) k_M_counting_16 rfl f_M_9 rfl (by first | exact ga G (by decide) rfl | assumption) (by first | exact gr G (by decide) rfl | assumption) ?_
    | refine T_sipush (v := (nI 156)) (pc1 := 22) (pc := 19) k_M_counting_19 rfl (by decide) ?_
    | refine T_bipush (v := (nI 100)) (pc1 := 24) (pc := 22) k_M_counting_22 rfl (by decide) ?_
    | refine T_iload_n (pc1 := 25) (pc := 24) k_M_counting_24 rfl rfl ?_
    | with_reducible refine T_imulN (pc1 := 26) (pc := 25) k_M_counting_25 (by decide) ?_
    | refine T_imul (pc1 := 26) (pc := 25) k_M_counting_25 rfl ?_
    | with_reducible refine T_iaddN (pc1 := 27) (pc := 26) k_M_counting_26 (by decide) ?_
    | refine T_iadd (pc1 := 27) (pc := 26) k_M_counting_26 rfl ?_
    | refine T_iconst (v := (nI 0)) (pc1 := 28) (pc := 27) k_M_counting_27 rfl (by decide) ?_
    | with_reducible refine T_iaddN (pc1 := 29) (pc := 28) k_M_counting_28 (by decide) ?_
    | refine T_iadd (pc1 := 29) (pc := 28) k_M_counting_28 rfl ?_
    | refine T_ialdN (pc1 := 30) (pc := 29) k_M_counting_29 rfl (by first | exact ga G (by decide) rfl | assumption) (by omega) (by omega) (by first | assumption | (simp (disch := omega) only [pI_eq, pI_row, pI_col, va_up_self, va_up_ne, ne_eq, not_false_eq_true, hN, ht] <;> rfl) | rfl) ?_
    | refine T_iald (pc1 := 30) (pc := 29) k_M_counting_29 rfl (by first | exact ga G (by decide) rfl | assumption) (by assumption) ?_
    | refine T_iload_n (pc1 := 31) (pc := 30) k_M_counting_30 rfl rfl ?_
    | (with_reducible refine T_icmp_neN (tgt := 38) (pc1 := 34) (pc := 31) k_M_counting_31 (by decide) (by decide) (by omega) (by omega) (fun hc => ?_) (fun hc => ?_) <;> first | (exfalso; omega) | skip)
    | refine T_icmp_ne_t (tgt := 38) (pc := 31) k_M_counting_31 rfl (by decide) ?_
    | refine T_icmp_ne_f (tgt := 38) (pc1 := 34) (pc := 31) k_M_counting_31 rfl rfl (by decide) ?_
    | refine T_icmp_ne (tgt := 38) (pc1 := 34) (pc := 31) k_M_counting_31 rfl rfl (fun hc => ?_) (fun hc => ?_)
    | refine T_iload_n (pc1 := 35) (pc := 34) k_M_counting_34 rfl rfl ?_
    | refine T_goto (tgt := 39) (pc := 35) k_M_counting_35 rfl ?_
    | refine T_iload_n (pc1 := 39) (pc := 38) k_M_counting_38 rfl rfl ?_
    | refine T_istore_n (pc1 := 40) (pc := 39) k_M_counting_39 rfl (Nat.le_of_ble_eq_true rfl) ?_
    | refine T_iincN (b := 1) (pc1 := 43) (pc := 40) k_M_counting_40 rfl rfl (by decide) ?_
    | refine T_iinc (v := (nI 1)) (pc1 := 43) (pc := 40) k_M_counting_40 rfl rfl (by decide) ?_
    | refine T_goto (tgt := 4) (pc := 43) k_M_counting_43 rfl ?_
    | refine T_iload_n (pc1 := 47) (pc := 46) k_M_counting_46 rfl rfl ?_
    | refine T_retI (pc := 47) k_M_counting_47 rfl (by first | rfl | decide | assumption) ?_)
  exact loop tn 0 (by omega)
theorem dn_dflt {x a b : Int32} (h : x.toInt < -27 ∨ -20 < x.toInt) : dn x a b = if b = 0 then nI 0 else a / b := by
  have ne : ∀ y : Int32, (-27 ≤ y.toInt ∧ y.toInt ≤ -20) → ¬ x = y := fun y hy e => by subst e; omega
  unfold dn
  rw [if_neg (ne (-20) (by decide)), if_neg (ne (-21) (by decide)), if_neg (ne (-22) (by decide)), if_neg (ne (-23) (by decide)), if_neg (ne (-24) (by decide)), if_neg (ne (-25) (by decide)), if_neg (ne (-26) (by decide)), if_neg (ne (-27) (by decide))]
theorem c_M_done {x a b : Int32} (kk : ∀ r, r = dn x a b → K (some (.int r)) g I) : Cl 1 M_M_done [.int x, .int a, .int b] g I K := by
  show Rl 1 M_M_done 0 [some (.int x), some (.int a), some (.int b)] [] g I K
  refine T_iload_n (pc1 := 1) (pc := 0) k_M_done_0 rfl rfl ?_
  refine sw_M_done_1 (fun hc => ?_) (fun hc => ?_) (fun hc => ?_) (fun hc => ?_) (fun hc => ?_) (fun hc => ?_) (fun hc => ?_) (fun hc => ?_) (fun hc => ?_)
  · obtain rfl : x = -27 := toInt_inj hc
    repeat' (first
      | refine T_iload_n (pc1 := 1) (pc := 0) k_M_done_0 rfl rfl ?_
      | refine sw_M_done_1 (fun hc => ?_) (fun hc => ?_) (fun hc => ?_) (fun hc => ?_) (fun hc => ?_) (fun hc => ?_) (fun hc => ?_) (fun hc => ?_) (fun hc => ?_)
      | refine T_iload_n (pc1 := 49) (pc := 48) k_M_done_48 rfl rfl ?_
      | (with_reducible refine T_if_neN (tgt := 56) (pc1 := 52) (pc := 49) k_M_done_49 (by decide) (by decide) (by omega) (fun hc => ?_) (fun hc => ?_) <;> first | (exfalso; omega) | skip)
      | refine T_if_ne_t (tgt := 56) (pc := 49) k_M_done_49 rfl (by decide) ?_
      | refine T_if_ne_f (tgt := 56) (pc1 := 52) (pc := 49) k_M_done_49 rfl rfl (by decide) ?_
      | refine T_if_ne (tgt := 56) (pc1 := 52) (pc := 49) k_M_done_49 rfl rfl (fun hc => ?_) (fun hc => ?_)
      | refine T_iload_n (pc1 := 53) (pc := 52) k_M_done_52 rfl rfl ?_
      | (with_reducible refine T_if_eqN (tgt := 60) (pc1 := 56) (pc := 53) k_M_done_53 (by decide) (by decide) (by omega) (fun hc => ?_) (fun hc => ?_) <;> first | (exfalso; omega) | skip)
      | refine T_if_eq_t (tgt := 60) (pc := 53) k_M_done_53 rfl (by decide) ?_
      | refine T_if_eq_f (tgt := 60) (pc1 := 56) (pc := 53) k_M_done_53 rfl rfl (by decide) ?_
      | refine T_if_eq (tgt := 60) (pc1 := 56) (pc := 53) k_M_done_53 rfl rfl (fun hc => ?_) (fun hc => ?_)
      | refine T_iconst (v := (nI 1)) (pc1 := 57) (pc := 56) k_M_done_56 rfl (by decide) ?_
      | refine T_goto (tgt := 61) (pc := 57) k_M_done_57 rfl ?_
      | refine T_iconst (v := (nI 0)) (pc1 := 61) (pc := 60) k_M_done_60 rfl (by decide) ?_
      | refine T_retI (pc := 61) k_M_done_61 rfl (by first | rfl | decide | assumption) ?_
      | refine T_iload_n (pc1 := 63) (pc := 62) k_M_done_62 rfl rfl ?_
      | (with_reducible refine T_if_eqN (tgt := 74) (pc1 := 66) (pc := 63) k_M_done_63 (by decide) (by decide) (by omega) (fun hc => ?_) (fun hc => ?_) <;> first | (exfalso; omega) | skip)
      | refine T_if_eq_t (tgt := 74) (pc := 63) k_M_done_63 rfl (by decide) ?_
      | refine T_if_eq_f (tgt := 74) (pc1 := 66) (pc := 63) k_M_done_63 rfl rfl (by decide) ?_
      | refine T_if_eq (tgt := 74) (pc1 := 66) (pc := 63) k_M_done_63 rfl rfl (fun hc => ?_) (fun hc => ?_)
      | refine T_iload_n (pc1 := 67) (pc := 66) k_M_done_66 rfl rfl ?_
      | (with_reducible refine T_if_eqN (tgt := 74) (pc1 := 70) (pc := 67) k_M_done_67 (by decide) (by decide) (by omega) (fun hc => ?_) (fun hc => ?_) <;> first | (exfalso; omega) | skip)
      | refine T_if_eq_t (tgt := 74) (pc := 67) k_M_done_67 rfl (by decide) ?_
      | refine T_if_eq_f (tgt := 74) (pc1 := 70) (pc := 67) k_M_done_67 rfl rfl (by decide) ?_
      | refine T_if_eq (tgt := 74) (pc1 := 70) (pc := 67) k_M_done_67 rfl rfl (fun hc => ?_) (fun hc => ?_)
      | refine T_iconst (v := (nI 1)) (pc1 := 71) (pc := 70) k_M_done_70 rfl (by decide) ?_
      | refine T_goto (tgt := 75) (pc := 71) k_M_done_71 rfl ?_
      | refine T_iconst (v := (nI 0)) (pc1 := 75) (pc := 74) k_M_done_74 rfl (by decide) ?_
      | refine T_retI (pc := 75) k_M_done_75 rfl (by first | rfl | decide | assumption) ?_
      | refine T_iload_n (pc1 := 77) (pc := 76) k_M_done_76 rfl rfl ?_
      | refine T_iload_n (pc1 := 78) (pc := 77) k_M_done_77 rfl rfl ?_
      | (with_reducible refine T_icmp_geN (tgt := 85) (pc1 := 81) (pc := 78) k_M_done_78 (by decide) (by decide) (by omega) (by omega) (fun hc => ?_) (fun hc => ?_) <;> first | (exfalso; omega) | skip)
      | refine T_icmp_ge_t (tgt := 85) (pc := 78) k_M_done_78 rfl (by decide) ?_
      | refine T_icmp_ge_f (tgt := 85) (pc1 := 81) (pc := 78) k_M_done_78 rfl rfl (by decide) ?_
      | refine T_icmp_ge (tgt := 85) (pc1 := 81) (pc := 78) k_M_done_78 rfl rfl (fun hc => ?_) (fun hc => ?_)
      | refine T_iconst (v := (nI 1)) (pc1 := 82) (pc := 81) k_M_done_81 rfl (by decide) ?_
      | refine T_goto (tgt := 86) (pc := 82) k_M_done_82 rfl ?_
      | refine T_iconst (v := (nI 0)) (pc1 := 86) (pc := 85) k_M_done_85 rfl (by decide) ?_
      | refine T_retI (pc := 86) k_M_done_86 rfl (by first | rfl | decide | assumption) ?_
      | refine T_iload_n (pc1 := 88) (pc := 87) k_M_done_87 rfl rfl ?_
      | refine T_iload_n (pc1 := 89) (pc := 88) k_M_done_88 rfl rfl ?_
      | (with_reducible refine T_icmp_neN (tgt := 96) (pc1 := 92) (pc := 89) k_M_done_89 (by decide) (by decide) (by omega) (by omega) (fun hc => ?_) (fun hc => ?_) <;> first | (exfalso; omega) | skip)
      | refine T_icmp_ne_t (tgt := 96) (pc := 89) k_M_done_89 rfl (by decide) ?_
      | refine T_icmp_ne_f (tgt := 96) (pc1 := 92) (pc := 89) k_M_done_89 rfl rfl (by decide) ?_
      | refine T_icmp_ne (tgt := 96) (pc1 := 92) (pc := 89) k_M_done_89 rfl rfl (fun hc => ?_) (fun hc => ?_)
      | refine T_iconst (v := (nI 1)) (pc1 := 93) (pc := 92) k_M_done_92 rfl (by decide) ?_
      | refine T_goto (tgt := 97) (pc := 93) k_M_done_93 rfl ?_
      | refine T_iconst (v := (nI 0)) (pc1 := 97) (pc := 96) k_M_done_96 rfl (by decide) ?_
      | refine T_retI (pc := 97) k_M_done_97 rfl (by first | rfl | decide | assumption) ?_
      | refine T_iload_n (pc1 := 99) (pc := 98) k_M_done_98 rfl rfl ?_
      | refine T_iload_n (pc1 := 100) (pc := 99) k_M_done_99 rfl rfl ?_
      | (with_reducible refine T_icmp_leN (tgt := 107) (pc1 := 103) (pc := 100) k_M_done_100 (by decide) (by decide) (by omega) (by omega) (fun hc => ?_) (fun hc => ?_) <;> first | (exfalso; omega) | skip)
      | refine T_icmp_le_t (tgt := 107) (pc := 100) k_M_done_100 rfl (by decide) ?_
      | refine T_icmp_le_f (tgt := 107) (pc1 := 103) (pc := 100) k_M_done_100 rfl rfl (by decide) ?_
      | refine T_icmp_le (tgt := 107) (pc1 := 103) (pc := 100) k_M_done_100 rfl rfl (fun hc => ?_) (fun hc => ?_)
      | refine T_iconst (v := (nI 1)) (pc1 := 104) (pc := 103) k_M_done_103 rfl (by decide) ?_
      | refine T_goto (tgt := 108) (pc := 104) k_M_done_104 rfl ?_
      | refine T_iconst (v := (nI 0)) (pc1 := 108) (pc := 107) k_M_done_107 rfl (by decide) ?_
      | refine T_retI (pc := 108) k_M_done_108 rfl (by first | rfl | decide | assumption) ?_
      | refine T_iload_n (pc1 := 110) (pc := 109) k_M_done_109 rfl rfl ?_
      | refine T_iload_n (pc1 := 111) (pc := 110) k_M_done_110 rfl rfl ?_
      | with_reducible refine T_iaddN (pc1 := 112) (pc := 111) k_M_done_111 (by decide) ?_
      | refine T_iadd (pc1 := 112) (pc := 111) k_M_done_111 rfl ?_
      | refine T_retI (pc := 112) k_M_done_112 rfl (by first | rfl | decide | assumption) ?_
      | refine T_iload_n (pc1 := 114) (pc := 113) k_M_done_113 rfl rfl ?_
      | refine T_iload_n (pc1 := 115) (pc := 114) k_M_done_114 rfl rfl ?_
      | with_reducible refine T_isubN (pc1 := 116) (pc := 115) k_M_done_115 (by decide) (by omega) ?_
      | refine T_isub (pc1 := 116) (pc := 115) k_M_done_115 rfl ?_
      | refine T_retI (pc := 116) k_M_done_116 rfl (by first | rfl | decide | assumption) ?_
      | refine T_iload_n (pc1 := 118) (pc := 117) k_M_done_117 rfl rfl ?_
      | refine T_iload_n (pc1 := 119) (pc := 118) k_M_done_118 rfl rfl ?_
      | with_reducible refine T_imulN (pc1 := 120) (pc := 119) k_M_done_119 (by decide) ?_
      | refine T_imul (pc1 := 120) (pc := 119) k_M_done_119 rfl ?_
      | refine T_retI (pc := 120) k_M_done_120 rfl (by first | rfl | decide | assumption) ?_
      | refine T_iload_n (pc1 := 122) (pc := 121) k_M_done_121 rfl rfl ?_
      | (with_reducible refine T_if_neN (tgt := 129) (pc1 := 125) (pc := 122) k_M_done_122 (by decide) (by decide) (by omega) (fun hc => ?_) (fun hc => ?_) <;> first | (exfalso; omega) | skip)
      | refine T_if_ne_t (tgt := 129) (pc := 122) k_M_done_122 rfl (by decide) ?_
      | refine T_if_ne_f (tgt := 129) (pc1 := 125) (pc := 122) k_M_done_122 rfl rfl (by decide) ?_
      | refine T_if_ne (tgt := 129) (pc1 := 125) (pc := 122) k_M_done_122 rfl rfl (fun hc => ?_) (fun hc => ?_)
      | refine T_iconst (v := (nI 0)) (pc1 := 126) (pc := 125) k_M_done_125 rfl (by decide) ?_
      | refine T_goto (tgt := 132) (pc := 126) k_M_done_126 rfl ?_
      | refine T_iload_n (pc1 := 130) (pc := 129) k_M_done_129 rfl rfl ?_
      | refine T_iload_n (pc1 := 131) (pc := 130) k_M_done_130 rfl rfl ?_
      | refine T_idiv (pc1 := 132) (pc := 131) k_M_done_131 rfl (by first | assumption | decide) ?_
      | refine T_retI (pc := 132) k_M_done_132 rfl (by first | rfl | decide | assumption) ?_)
    exact kk _ rfl
  · obtain rfl : x = -26 := toInt_inj hc
    repeat' (first
      | refine T_iload_n (pc1 := 1) (pc := 0) k_M_done_0 rfl rfl ?_
      | refine sw_M_done_1 (fun hc => ?_) (fun hc => ?_) (fun hc => ?_) (fun hc => ?_) (fun hc => ?_) (fun hc => ?_) (fun hc => ?_) (fun hc => ?_) (fun hc => ?_)
      | refine T_iload_n (pc1 := 49) (pc := 48) k_M_done_48 rfl rfl ?_
      | (with_reducible refine T_if_neN (tgt := 56) (pc1 := 52) (pc := 49) k_M_done_49 (by decide) (by decide) (by omega) (fun hc => ?_) (fun hc => ?_) <;> first | (exfalso; omega) | skip)
      | refine T_if_ne_t (tgt := 56) (pc := 49) k_M_done_49 rfl (by decide) ?_
      | refine T_if_ne_f (tgt := 56) (pc1 := 52) (pc := 49) k_M_done_49 rfl rfl (by decide) ?_
      | refine T_if_ne (tgt := 56) (pc1 := 52) (pc := 49) k_M_done_49 rfl rfl (fun hc => ?_) (fun hc => ?_)
      | refine T_iload_n (pc1 := 53) (pc := 52) k_M_done_52 rfl rfl ?_
      | (with_reducible refine T_if_eqN (tgt := 60) (pc1 := 56) (pc := 53) k_M_done_53 (by decide) (by decide) (by omega) (fun hc => ?_) (fun hc => ?_) <;> first | (exfalso; omega) | skip)
      | refine T_if_eq_t (tgt := 60) (pc := 53) k_M_done_53 rfl (by decide) ?_
      | refine T_if_eq_f (tgt := 60) (pc1 := 56) (pc := 53) k_M_done_53 rfl rfl (by decide) ?_
      | refine T_if_eq (tgt := 60) (pc1 := 56) (pc := 53) k_M_done_53 rfl rfl (fun hc => ?_) (fun hc => ?_)
      | refine T_iconst (v := (nI 1)) (pc1 := 57) (pc := 56) k_M_done_56 rfl (by decide) ?_
      | refine T_goto (tgt := 61) (pc := 57) k_M_done_57 rfl ?_
      | refine T_iconst (v := (nI 0)) (pc1 := 61) (pc := 60) k_M_done_60 rfl (by decide) ?_
      | refine T_retI (pc := 61) k_M_done_61 rfl (by first | rfl | decide | assumption) ?_
      | refine T_iload_n (pc1 := 63) (pc := 62) k_M_done_62 rfl rfl ?_
      | (with_reducible refine T_if_eqN (tgt := 74) (pc1 := 66) (pc := 63) k_M_done_63 (by decide) (by decide) (by omega) (fun hc => ?_) (fun hc => ?_) <;> first | (exfalso; omega) | skip)
      | refine T_if_eq_t (tgt := 74) (pc := 63) k_M_done_63 rfl (by decide) ?_
      | refine T_if_eq_f (tgt := 74) (pc1 := 66) (pc := 63) k_M_done_63 rfl rfl (by decide) ?_
      | refine T_if_eq (tgt := 74) (pc1 := 66) (pc := 63) k_M_done_63 rfl rfl (fun hc => ?_) (fun hc => ?_)
      | refine T_iload_n (pc1 := 67) (pc := 66) k_M_done_66 rfl rfl ?_
      | (with_reducible refine T_if_eqN (tgt := 74) (pc1 := 70) (pc := 67) k_M_done_67 (by decide) (by decide) (by omega) (fun hc => ?_) (fun hc => ?_) <;> first | (exfalso; omega) | skip)
      | refine T_if_eq_t (tgt := 74) (pc := 67) k_M_done_67 rfl (by decide) ?_
      | refine T_if_eq_f (tgt := 74) (pc1 := 70) (pc := 67) k_M_done_67 rfl rfl (by decide) ?_
      | refine T_if_eq (tgt := 74) (pc1 := 70) (pc := 67) k_M_done_67 rfl rfl (fun hc => ?_) (fun hc => ?_)
      | refine T_iconst (v := (nI 1)) (pc1 := 71) (pc := 70) k_M_done_70 rfl (by decide) ?_
      | refine T_goto (tgt := 75) (pc := 71) k_M_done_71 rfl ?_
      | refine T_iconst (v := (nI 0)) (pc1 := 75) (pc := 74) k_M_done_74 rfl (by decide) ?_
      | refine T_retI (pc := 75) k_M_done_75 rfl (by first | rfl | decide | assumption) ?_
      | refine T_iload_n (pc1 := 77) (pc := 76) k_M_done_76 rfl rfl ?_
      | refine T_iload_n (pc1 := 78) (pc := 77) k_M_done_77 rfl rfl ?_
      | (with_reducible refine T_icmp_geN (tgt := 85) (pc1 := 81) (pc := 78) k_M_done_78 (by decide) (by decide) (by omega) (by omega) (fun hc => ?_) (fun hc => ?_) <;> first | (exfalso; omega) | skip)
      | refine T_icmp_ge_t (tgt := 85) (pc := 78) k_M_done_78 rfl (by decide) ?_
      | refine T_icmp_ge_f (tgt := 85) (pc1 := 81) (pc := 78) k_M_done_78 rfl rfl (by decide) ?_
      | refine T_icmp_ge (tgt := 85) (pc1 := 81) (pc := 78) k_M_done_78 rfl rfl (fun hc => ?_) (fun hc => ?_)
      | refine T_iconst (v := (nI 1)) (pc1 := 82) (pc := 81) k_M_done_81 rfl (by decide) ?_
      | refine T_goto (tgt := 86) (pc := 82) k_M_done_82 rfl ?_
      | refine T_iconst (v := (nI 0)) (pc1 := 86) (pc := 85) k_M_done_85 rfl (by decide) ?_
      | refine T_retI (pc := 86) k_M_done_86 rfl (by first | rfl | decide | assumption) ?_
      | refine T_iload_n (pc1 := 88) (pc := 87) k_M_done_87 rfl rfl ?_
      | refine T_iload_n (pc1 := 89) (pc := 88) k_M_done_88 rfl rfl ?_
      | (with_reducible refine T_icmp_neN (tgt := 96) (pc1 := 92) (pc := 89) k_M_done_89 (by decide) (by decide) (by omega) (by omega) (fun hc => ?_) (fun hc => ?_) <;> first | (exfalso; omega) | skip)
      | refine T_icmp_ne_t (tgt := 96) (pc := 89) k_M_done_89 rfl (by decide) ?_
      | refine T_icmp_ne_f (tgt := 96) (pc1 := 92) (pc := 89) k_M_done_89 rfl rfl (by decide) ?_
      | refine T_icmp_ne (tgt := 96) (pc1 := 92) (pc := 89) k_M_done_89 rfl rfl (fun hc => ?_) (fun hc => ?_)
      | refine T_iconst (v := (nI 1)) (pc1 := 93) (pc := 92) k_M_done_92 rfl (by decide) ?_
      | refine T_goto (tgt := 97) (pc := 93) k_M_done_93 rfl ?_
      | refine T_iconst (v := (nI 0)) (pc1 := 97) (pc := 96) k_M_done_96 rfl (by decide) ?_
      | refine T_retI (pc := 97) k_M_done_97 rfl (by first | rfl | decide | assumption) ?_
      | refine T_iload_n (pc1 := 99) (pc := 98) k_M_done_98 rfl rfl ?_
      | refine T_iload_n (pc1 := 100) (pc := 99) k_M_done_99 rfl rfl ?_
      | (with_reducible refine T_icmp_leN (tgt := 107) (pc1 := 103) (pc := 100) k_M_done_100 (by decide) (by decide) (by omega) (by omega) (fun hc => ?_) (fun hc => ?_) <;> first | (exfalso; omega) | skip)
      | refine T_icmp_le_t (tgt := 107) (pc := 100) k_M_done_100 rfl (by decide) ?_
      | refine T_icmp_le_f (tgt := 107) (pc1 := 103) (pc := 100) k_M_done_100 rfl rfl (by decide) ?_
      | refine T_icmp_le (tgt := 107) (pc1 := 103) (pc := 100) k_M_done_100 rfl rfl (fun hc => ?_) (fun hc => ?_)
      | refine T_iconst (v := (nI 1)) (pc1 := 104) (pc := 103) k_M_done_103 rfl (by decide) ?_
      | refine T_goto (tgt := 108) (pc := 104) k_M_done_104 rfl ?_
      | refine T_iconst (v := (nI 0)) (pc1 := 108) (pc := 107) k_M_done_107 rfl (by decide) ?_
      | refine T_retI (pc := 108) k_M_done_108 rfl (by first | rfl | decide | assumption) ?_
      | refine T_iload_n (pc1 := 110) (pc := 109) k_M_done_109 rfl rfl ?_
      | refine T_iload_n (pc1 := 111) (pc := 110) k_M_done_110 rfl rfl ?_
      | with_reducible refine T_iaddN (pc1 := 112) (pc := 111) k_M_done_111 (by decide) ?_
      | refine T_iadd (pc1 := 112) (pc := 111) k_M_done_111 rfl ?_
      | refine T_retI (pc := 112) k_M_done_112 rfl (by first | rfl | decide | assumption) ?_
      | refine T_iload_n (pc1 := 114) (pc := 113) k_M_done_113 rfl rfl ?_
      | refine T_iload_n (pc1 := 115) (pc := 114) k_M_done_114 rfl rfl ?_
      | with_reducible refine T_isubN (pc1 := 116) (pc := 115) k_M_done_115 (by decide) (by omega) ?_
      | refine T_isub (pc1 := 116) (pc := 115) k_M_done_115 rfl ?_
      | refine T_retI (pc := 116) k_M_done_116 rfl (by first | rfl | decide | assumption) ?_
      | refine T_iload_n (pc1 := 118) (pc := 117) k_M_done_117 rfl rfl ?_
      | refine T_iload_n (pc1 := 119) (pc := 118) k_M_done_118 rfl rfl ?_
      | with_reducible refine T_imulN (pc1 := 120) (pc := 119) k_M_done_119 (by decide) ?_
      | refine T_imul (pc1 := 120) (pc := 119) k_M_done_119 rfl ?_
      | refine T_retI (pc := 120) k_M_done_120 rfl (by first | rfl | decide | assumption) ?_
      | refine T_iload_n (pc1 := 122) (pc := 121) k_M_done_121 rfl rfl ?_
      | (with_reducible refine T_if_neN (tgt := 129) (pc1 := 125) (pc := 122) k_M_done_122 (by decide) (by decide) (by omega) (fun hc => ?_) (fun hc => ?_) <;> first | (exfalso; omega) | skip)
      | refine T_if_ne_t (tgt := 129) (pc := 122) k_M_done_122 rfl (by decide) ?_
      | refine T_if_ne_f (tgt := 129) (pc1 := 125) (pc := 122) k_M_done_122 rfl rfl (by decide) ?_
      | refine T_if_ne (tgt := 129) (pc1 := 125) (pc := 122) k_M_done_122 rfl rfl (fun hc => ?_) (fun hc => ?_)
      | refine T_iconst (v := (nI 0)) (pc1 := 126) (pc := 125) k_M_done_125 rfl (by decide) ?_
      | refine T_goto (tgt := 132) (pc := 126) k_M_done_126 rfl ?_
      | refine T_iload_n (pc1 := 130) (pc := 129) k_M_done_129 rfl rfl ?_
      | refine T_iload_n (pc1 := 131) (pc := 130) k_M_done_130 rfl rfl ?_
      | refine T_idiv (pc1 := 132) (pc := 131) k_M_done_131 rfl (by first | assumption | decide) ?_
      | refine T_retI (pc := 132) k_M_done_132 rfl (by first | rfl | decide | assumption) ?_)
    exact kk _ rfl
  · obtain rfl : x = -25 := toInt_inj hc
    repeat' (first
      | refine T_iload_n (pc1 := 1) (pc := 0) k_M_done_0 rfl rfl ?_
      | refine sw_M_done_1 (fun hc => ?_) (fun hc => ?_) (fun hc => ?_) (fun hc => ?_) (fun hc => ?_) (fun hc => ?_) (fun hc => ?_) (fun hc => ?_) (fun hc => ?_)
      | refine T_iload_n (pc1 := 49) (pc := 48) k_M_done_48 rfl rfl ?_
      | (with_reducible refine T_if_neN (tgt := 56) (pc1 := 52) (pc := 49) k_M_done_49 (by decide) (by decide) (by omega) (fun hc => ?_) (fun hc => ?_) <;> first | (exfalso; omega) | skip)
      | refine T_if_ne_t (tgt := 56) (pc := 49) k_M_done_49 rfl (by decide) ?_
      | refine T_if_ne_f (tgt := 56) (pc1 := 52) (pc := 49) k_M_done_49 rfl rfl (by decide) ?_
      | refine T_if_ne (tgt := 56) (pc1 := 52) (pc := 49) k_M_done_49 rfl rfl (fun hc => ?_) (fun hc => ?_)
      | refine T_iload_n (pc1 := 53) (pc := 52) k_M_done_52 rfl rfl ?_
      | (with_reducible refine T_if_eqN (tgt := 60) (pc1 := 56) (pc := 53) k_M_done_53 (by decide) (by decide) (by omega) (fun hc => ?_) (fun hc => ?_) <;> first | (exfalso; omega) | skip)
      | refine T_if_eq_t (tgt := 60) (pc := 53) k_M_done_53 rfl (by decide) ?_
      | refine T_if_eq_f (tgt := 60) (pc1 := 56) (pc := 53) k_M_done_53 rfl rfl (by decide) ?_
      | refine T_if_eq (tgt := 60) (pc1 := 56) (pc := 53) k_M_done_53 rfl rfl (fun hc => ?_) (fun hc => ?_)
      | refine T_iconst (v := (nI 1)) (pc1 := 57) (pc := 56) k_M_done_56 rfl (by decide) ?_
      | refine T_goto (tgt := 61) (pc := 57) k_M_done_57 rfl ?_
      | refine T_iconst (v := (nI 0)) (pc1 := 61) (pc := 60) k_M_done_60 rfl (by decide) ?_
      | refine T_retI (pc := 61) k_M_done_61 rfl (by first | rfl | decide | assumption) ?_
      | refine T_iload_n (pc1 := 63) (pc := 62) k_M_done_62 rfl rfl ?_
      | (with_reducible refine T_if_eqN (tgt := 74) (pc1 := 66) (pc := 63) k_M_done_63 (by decide) (by decide) (by omega) (fun hc => ?_) (fun hc => ?_) <;> first | (exfalso; omega) | skip)
      | refine T_if_eq_t (tgt := 74) (pc := 63) k_M_done_63 rfl (by decide) ?_
      | refine T_if_eq_f (tgt := 74) (pc1 := 66) (pc := 63) k_M_done_63 rfl rfl (by decide) ?_
      | refine T_if_eq (tgt := 74) (pc1 := 66) (pc := 63) k_M_done_63 rfl rfl (fun hc => ?_) (fun hc => ?_)
      | refine T_iload_n (pc1 := 67) (pc := 66) k_M_done_66 rfl rfl ?_
      | (with_reducible refine T_if_eqN (tgt := 74) (pc1 := 70) (pc := 67) k_M_done_67 (by decide) (by decide) (by omega) (fun hc => ?_) (fun hc => ?_) <;> first | (exfalso; omega) | skip)
      | refine T_if_eq_t (tgt := 74) (pc := 67) k_M_done_67 rfl (by decide) ?_
      | refine T_if_eq_f (tgt := 74) (pc1 := 70) (pc := 67) k_M_done_67 rfl rfl (by decide) ?_
      | refine T_if_eq (tgt := 74) (pc1 := 70) (pc := 67) k_M_done_67 rfl rfl (fun hc => ?_) (fun hc => ?_)
      | refine T_iconst (v := (nI 1)) (pc1 := 71) (pc := 70) k_M_done_70 rfl (by decide) ?_
      | refine T_goto (tgt := 75) (pc := 71) k_M_done_71 rfl ?_
      | refine T_iconst (v := (nI 0)) (pc1 := 75) (pc := 74) k_M_done_74 rfl (by decide) ?_
      | refine T_retI (pc := 75) k_M_done_75 rfl (by first | rfl | decide | assumption) ?_
      | refine T_iload_n (pc1 := 77) (pc := 76) k_M_done_76 rfl rfl ?_
      | refine T_iload_n (pc1 := 78) (pc := 77) k_M_done_77 rfl rfl ?_
      | (with_reducible refine T_icmp_geN (tgt := 85) (pc1 := 81) (pc := 78) k_M_done_78 (by decide) (by decide) (by omega) (by omega) (fun hc => ?_) (fun hc => ?_) <;> first | (exfalso; omega) | skip)
      | refine T_icmp_ge_t (tgt := 85) (pc := 78) k_M_done_78 rfl (by decide) ?_
      | refine T_icmp_ge_f (tgt := 85) (pc1 := 81) (pc := 78) k_M_done_78 rfl rfl (by decide) ?_
      | refine T_icmp_ge (tgt := 85) (pc1 := 81) (pc := 78) k_M_done_78 rfl rfl (fun hc => ?_) (fun hc => ?_)
      | refine T_iconst (v := (nI 1)) (pc1 := 82) (pc := 81) k_M_done_81 rfl (by decide) ?_
      | refine T_goto (tgt := 86) (pc := 82) k_M_done_82 rfl ?_
      | refine T_iconst (v := (nI 0)) (pc1 := 86) (pc := 85) k_M_done_85 rfl (by decide) ?_
      | refine T_retI (pc := 86) k_M_done_86 rfl (by first | rfl | decide | assumption) ?_
      | refine T_iload_n (pc1 := 88) (pc := 87) k_M_done_87 rfl rfl ?_
      | refine T_iload_n (pc1 := 89) (pc := 88) k_M_done_88 rfl rfl ?_
      | (with_reducible refine T_icmp_neN (tgt := 96) (pc1 := 92) (pc := 89) k_M_done_89 (by decide) (by decide) (by omega) (by omega) (fun hc => ?_) (fun hc => ?_) <;> first | (exfalso; omega) | skip)
      | refine T_icmp_ne_t (tgt := 96) (pc := 89) k_M_done_89 rfl (by decide) ?_
      | refine T_icmp_ne_f (tgt := 96) (pc1 := 92) (pc := 89) k_M_done_89 rfl rfl (by decide) ?_
      | refine T_icmp_ne (tgt := 96) (pc1 := 92) (pc := 89) k_M_done_89 rfl rfl (fun hc => ?_) (fun hc => ?_)
      | refine T_iconst (v := (nI 1)) (pc1 := 93) (pc := 92) k_M_done_92 rfl (by decide) ?_
      | refine T_goto (tgt := 97) (pc := 93) k_M_done_93 rfl ?_
      | refine T_iconst (v := (nI 0)) (pc1 := 97) (pc := 96) k_M_done_96 rfl (by decide) ?_
      | refine T_retI (pc := 97) k_M_done_97 rfl (by first | rfl | decide | assumption) ?_
      | refine T_iload_n (pc1 := 99) (pc := 98) k_M_done_98 rfl rfl ?_
      | refine T_iload_n (pc1 := 100) (pc := 99) k_M_done_99 rfl rfl ?_
      | (with_reducible refine T_icmp_leN (tgt := 107) (pc1 := 103) (pc := 100) k_M_done_100 (by decide) (by decide) (by omega) (by omega) (fun hc => ?_) (fun hc => ?_) <;> first | (exfalso; omega) | skip)
      | refine T_icmp_le_t (tgt := 107) (pc := 100) k_M_done_100 rfl (by decide) ?_
      | refine T_icmp_le_f (tgt := 107) (pc1 := 103) (pc := 100) k_M_done_100 rfl rfl (by decide) ?_
      | refine T_icmp_le (tgt := 107) (pc1 := 103) (pc := 100) k_M_done_100 rfl rfl (fun hc => ?_) (fun hc => ?_)
      | refine T_iconst (v := (nI 1)) (pc1 := 104) (pc := 103) k_M_done_103 rfl (by decide) ?_
      | refine T_goto (tgt := 108) (pc := 104) k_M_done_104 rfl ?_
      | refine T_iconst (v := (nI 0)) (pc1 := 108) (pc := 107) k_M_done_107 rfl (by decide) ?_
      | refine T_retI (pc := 108) k_M_done_108 rfl (by first | rfl | decide | assumption) ?_
      | refine T_iload_n (pc1 := 110) (pc := 109) k_M_done_109 rfl rfl ?_
      | refine T_iload_n (pc1 := 111) (pc := 110) k_M_done_110 rfl rfl ?_
      | with_reducible refine T_iaddN (pc1 := 112) (pc := 111) k_M_done_111 (by decide) ?_
      | refine T_iadd (pc1 := 112) (pc := 111) k_M_done_111 rfl ?_
      | refine T_retI (pc := 112) k_M_done_112 rfl (by first | rfl | decide | assumption) ?_
      | refine T_iload_n (pc1 := 114) (pc := 113) k_M_done_113 rfl rfl ?_
      | refine T_iload_n (pc1 := 115) (pc := 114) k_M_done_114 rfl rfl ?_
      | with_reducible refine T_isubN (pc1 := 116) (pc := 115) k_M_done_115 (by decide) (by omega) ?_
      | refine T_isub (pc1 := 116) (pc := 115) k_M_done_115 rfl ?_
      | refine T_retI (pc := 116) k_M_done_116 rfl (by first | rfl | decide | assumption) ?_
      | refine T_iload_n (pc1 := 118) (pc := 117) k_M_done_117 rfl rfl ?_
      | refine T_iload_n (pc1 := 119) (pc := 118) k_M_done_118 rfl rfl ?_
      | with_reducible refine T_imulN (pc1 := 120) (pc := 119) k_M_done_119 (by decide) ?_
      | refine T_imul (pc1 := 120) (pc := 119) k_M_done_119 rfl ?_
      | refine T_retI (pc := 120) k_M_done_120 rfl (by first | rfl | decide | assumption) ?_
      | refine T_iload_n (pc1 := 122) (pc := 121) k_M_done_121 rfl rfl ?_
      | (with_reducible refine T_if_neN (tgt := 129) (pc1 := 125) (pc := 122) k_M_done_122 (by decide) (by decide) (by omega) (fun hc => ?_) (fun hc => ?_) <;> first | (exfalso; omega) | skip)
      | refine T_if_ne_t (tgt := 129) (pc := 122) k_M_done_122 rfl (by decide) ?_
      | refine T_if_ne_f (tgt := 129) (pc1 := 125) (pc := 122) k_M_done_122 rfl rfl (by decide) ?_
      | refine T_if_ne (tgt := 129) (pc1 := 125) (pc := 122) k_M_done_122 rfl rfl (fun hc => ?_) (fun hc => ?_)
      | refine T_iconst (v := (nI 0)) (pc1 := 126) (pc := 125) k_M_done_125 rfl (by decide) ?_
      | refine T_goto (tgt := 132) (pc := 126) k_M_done_126 rfl ?_
      | refine T_iload_n (pc1 := 130) (pc := 129) k_M_done_129 rfl rfl ?_
      | refine T_iload_n (pc1 := 131) (pc := 130) k_M_done_130 rfl rfl ?_
      | refine T_idiv (pc1 := 132) (pc := 131) k_M_done_131 rfl (by first | assumption | decide) ?_
      | refine T_retI (pc := 132) k_M_done_132 rfl (by first | rfl | decide | assumption) ?_)
    exact kk _ rfl
  · obtain rfl : x = -24 := toInt_inj hc
    repeat' (first
      | refine T_iload_n (pc1 := 1) (pc := 0) k_M_done_0 rfl rfl ?_
      | refine sw_M_done_1 (fun hc => ?_) (fun hc => ?_) (fun hc => ?_) (fun hc => ?_) (fun hc => ?_) (fun hc => ?_) (fun hc => ?_) (fun hc => ?_) (fun hc => ?_)
      | refine T_iload_n (pc1 := 49) (pc := 48) k_M_done_48 rfl rfl ?_
      | (with_reducible refine T_if_neN (tgt := 56) (pc1 := 52) (pc := 49) k_M_done_49 (by decide) (by decide) (by omega) (fun hc => ?_) (fun hc => ?_) <;> first | (exfalso; omega) | skip)
      | refine T_if_ne_t (tgt := 56) (pc := 49) k_M_done_49 rfl (by decide) ?_
      | refine T_if_ne_f (tgt := 56) (pc1 := 52) (pc := 49) k_M_done_49 rfl rfl (by decide) ?_
      | refine T_if_ne (tgt := 56) (pc1 := 52) (pc := 49) k_M_done_49 rfl rfl (fun hc => ?_) (fun hc => ?_)
      | refine T_iload_n (pc1 := 53) (pc := 52) k_M_done_52 rfl rfl ?_
      | (with_reducible refine T_if_eqN (tgt := 60) (pc1 := 56) (pc := 53) k_M_done_53 (by decide) (by decide) (by omega) (fun hc => ?_) (fun hc => ?_) <;> first | (exfalso; omega) | skip)
      | refine T_if_eq_t (tgt := 60) (pc := 53) k_M_done_53 rfl (by decide) ?_
      | refine T_if_eq_f (tgt := 60) (pc1 := 56) (pc := 53) k_M_done_53 rfl rfl (by decide) ?_
      | refine T_if_eq (tgt := 60) (pc1 := 56) (pc := 53) k_M_done_53 rfl rfl (fun hc => ?_) (fun hc => ?_)
      | refine T_iconst (v := (nI 1)) (pc1 := 57) (pc := 56) k_M_done_56 rfl (by decide) ?_
      | refine T_goto (tgt := 61) (pc := 57) k_M_done_57 rfl ?_
      | refine T_iconst (v := (nI 0)) (pc1 := 61) (pc := 60) k_M_done_60 rfl (by decide) ?_
      | refine T_retI (pc := 61) k_M_done_61 rfl (by first | rfl | decide | assumption) ?_
      | refine T_iload_n (pc1 := 63) (pc := 62) k_M_done_62 rfl rfl ?_
      | (with_reducible refine T_if_eqN (tgt := 74) (pc1 := 66) (pc := 63) k_M_done_63 (by decide) (by decide) (by omega) (fun hc => ?_) (fun hc => ?_) <;> first | (exfalso; omega) | skip)
      | refine T_if_eq_t (tgt := 74) (pc := 63) k_M_done_63 rfl (by decide) ?_
      | refine T_if_eq_f (tgt := 74) (pc1 := 66) (pc := 63) k_M_done_63 rfl rfl (by decide) ?_
      | refine T_if_eq (tgt := 74) (pc1 := 66) (pc := 63) k_M_done_63 rfl rfl (fun hc => ?_) (fun hc => ?_)
      | refine T_iload_n (pc1 := 67) (pc := 66) k_M_done_66 rfl rfl ?_
      | (with_reducible refine T_if_eqN (tgt := 74) (pc1 := 70) (pc := 67) k_M_done_67 (by decide) (by decide) (by omega) (fun hc => ?_) (fun hc => ?_) <;> first | (exfalso; omega) | skip)
      | refine T_if_eq_t (tgt := 74) (pc := 67) k_M_done_67 rfl (by decide) ?_
      | refine T_if_eq_f (tgt := 74) (pc1 := 70) (pc := 67) k_M_done_67 rfl rfl (by decide) ?_
      | refine T_if_eq (tgt := 74) (pc1 := 70) (pc := 67) k_M_done_67 rfl rfl (fun hc => ?_) (fun hc => ?_)
      | refine T_iconst (v := (nI 1)) (pc1 := 71) (pc := 70) k_M_done_70 rfl (by decide) ?_
      | refine T_goto (tgt := 75) (pc := 71) k_M_done_71 rfl ?_
      | refine T_iconst (v := (nI 0)) (pc1 := 75) (pc := 74) k_M_done_74 rfl (by decide) ?_
      | refine T_retI (pc := 75) k_M_done_75 rfl (by first | rfl | decide | assumption) ?_
      | refine T_iload_n (pc1 := 77) (pc := 76) k_M_done_76 rfl rfl ?_
      | refine T_iload_n (pc1 := 78) (pc := 77) k_M_done_77 rfl rfl ?_
      | (with_reducible refine T_icmp_geN (tgt := 85) (pc1 := 81) (pc := 78) k_M_done_78 (by decide) (by decide) (by omega) (by omega) (fun hc => ?_) (fun hc => ?_) <;> first | (exfalso; omega) | skip)
      | refine T_icmp_ge_t (tgt := 85) (pc := 78) k_M_done_78 rfl (by decide) ?_
      | refine T_icmp_ge_f (tgt := 85) (pc1 := 81) (pc := 78) k_M_done_78 rfl rfl (by decide) ?_
      | refine T_icmp_ge (tgt := 85) (pc1 := 81) (pc := 78) k_M_done_78 rfl rfl (fun hc => ?_) (fun hc => ?_)
      | refine T_iconst (v := (nI 1)) (pc1 := 82) (pc := 81) k_M_done_81 rfl (by decide) ?_
      | refine T_goto (tgt := 86) (pc := 82) k_M_done_82 rfl ?_
      | refine T_iconst (v := (nI 0)) (pc1 := 86) (pc := 85) k_M_done_85 rfl (by decide) ?_
      | refine T_retI (pc := 86) k_M_done_86 rfl (by first | rfl | decide | assumption) ?_
      | refine T_iload_n (pc1 := 88) (pc := 87) k_M_done_87 rfl rfl ?_
      | refine T_iload_n (pc1 := 89) (pc := 88) k_M_done_88 rfl rfl ?_
      | (with_reducible refine T_icmp_neN (tgt := 96) (pc1 := 92) (pc := 89) k_M_done_89 (by decide) (by decide) (by omega) (by omega) (fun hc => ?_) (fun hc => ?_) <;> first | (exfalso; omega) | skip)
      | refine T_icmp_ne_t (tgt := 96) (pc := 89) k_M_done_89 rfl (by decide) ?_
      | refine T_icmp_ne_f (tgt := 96) (pc1 := 92) (pc := 89) k_M_done_89 rfl rfl (by decide) ?_
      | refine T_icmp_ne (tgt := 96) (pc1 := 92) (pc := 89) k_M_done_89 rfl rfl (fun hc => ?_) (fun hc => ?_)
      | refine T_iconst (v := (nI 1)) (pc1 := 93) (pc := 92) k_M_done_92 rfl (by decide) ?_
      | refine T_goto (tgt := 97) (pc := 93) k_M_done_93 rfl ?_
      | refine T_iconst (v := (nI 0)) (pc1 := 97) (pc := 96) k_M_done_96 rfl (by decide) ?_
      | refine T_retI (pc := 97) k_M_done_97 rfl (by first | rfl | decide | assumption) ?_
      | refine T_iload_n (pc1 := 99) (pc := 98) k_M_done_98 rfl rfl ?_
      | refine T_iload_n (pc1 := 100) (pc := 99) k_M_done_99 rfl rfl ?_
      | (with_reducible refine T_icmp_leN (tgt := 107) (pc1 := 103) (pc := 100) k_M_done_100 (by decide) (by decide) (by omega) (by omega) (fun hc => ?_) (fun hc => ?_) <;> first | (exfalso; omega) | skip)
      | refine T_icmp_le_t (tgt := 107) (pc := 100) k_M_done_100 rfl (by decide) ?_
      | refine T_icmp_le_f (tgt := 107) (pc1 := 103) (pc := 100) k_M_done_100 rfl rfl (by decide) ?_
      | refine T_icmp_le (tgt := 107) (pc1 := 103) (pc := 100) k_M_done_100 rfl rfl (fun hc => ?_) (fun hc => ?_)
      | refine T_iconst (v := (nI 1)) (pc1 := 104) (pc := 103) k_M_done_103 rfl (by decide) ?_
      | refine T_goto (tgt := 108) (pc := 104) k_M_done_104 rfl ?_
      | refine T_iconst (v := (nI 0)) (pc1 := 108) (pc := 107) k_M_done_107 rfl (by decide) ?_
      | refine T_retI (pc := 108) k_M_done_108 rfl (by first | rfl | decide | assumption) ?_
      | refine T_iload_n (pc1 := 110) (pc := 109) k_M_done_109 rfl rfl ?_
      | refine T_iload_n (pc1 := 111) (pc := 110) k_M_done_110 rfl rfl ?_
      | with_reducible refine T_iaddN (pc1 := 112) (pc := 111) k_M_done_111 (by decide) ?_
      | refine T_iadd (pc1 := 112) (pc := 111) k_M_done_111 rfl ?_
      | refine T_retI (pc := 112) k_M_done_112 rfl (by first | rfl | decide | assumption) ?_
      | refine T_iload_n (pc1 := 114) (pc := 113) k_M_done_113 rfl rfl ?_
      | refine T_iload_n (pc1 := 115) (pc := 114) k_M_done_114 rfl rfl ?_
      | with_reducible refine T_isubN (pc1 := 116) (pc := 115) k_M_done_115 (by decide) (by omega) ?_
      | refine T_isub (pc1 := 116) (pc := 115) k_M_done_115 rfl ?_
      | refine T_retI (pc := 116) k_M_done_116 rfl (by first | rfl | decide | assumption) ?_
      | refine T_iload_n (pc1 := 118) (pc := 117) k_M_done_117 rfl rfl ?_
      | refine T_iload_n (pc1 := 119) (pc := 118) k_M_done_118 rfl rfl ?_
      | with_reducible refine T_imulN (pc1 := 120) (pc := 119) k_M_done_119 (by decide) ?_
      | refine T_imul (pc1 := 120) (pc := 119) k_M_done_119 rfl ?_
      | refine T_retI (pc := 120) k_M_done_120 rfl (by first | rfl | decide | assumption) ?_
      | refine T_iload_n (pc1 := 122) (pc := 121) k_M_done_121 rfl rfl ?_
      | (with_reducible refine T_if_neN (tgt := 129) (pc1 := 125) (pc := 122) k_M_done_122 (by decide) (by decide) (by omega) (fun hc => ?_) (fun hc => ?_) <;> first | (exfalso; omega) | skip)
      | refine T_if_ne_t (tgt := 129) (pc := 122) k_M_done_122 rfl (by decide) ?_
      | refine T_if_ne_f (tgt := 129) (pc1 := 125) (pc := 122) k_M_done_122 rfl rfl (by decide) ?_
      | refine T_if_ne (tgt := 129) (pc1 := 125) (pc := 122) k_M_done_122 rfl rfl (fun hc => ?_) (fun hc => ?_)
      | refine T_iconst (v := (nI 0)) (pc1 := 126) (pc := 125) k_M_done_125 rfl (by decide) ?_
      | refine T_goto (tgt := 132) (pc := 126) k_M_done_126 rfl ?_
      | refine T_iload_n (pc1 := 130) (pc := 129) k_M_done_129 rfl rfl ?_
      | refine T_iload_n (pc1 := 131) (pc := 130) k_M_done_130 rfl rfl ?_
      | refine T_idiv (pc1 := 132) (pc := 131) k_M_done_131 rfl (by first | assumption | decide) ?_
      | refine T_retI (pc := 132) k_M_done_132 rfl (by first | rfl | decide | assumption) ?_)
    · exact kk _ (by show _ = (if b < a then nI 1 else nI 0); rw [if_neg (Int32.not_lt.mpr (by assumption))])
    · exact kk _ (by show _ = (if b < a then nI 1 else nI 0); rw [if_pos (Int32.not_le.mp (by assumption))])
  · obtain rfl : x = -23 := toInt_inj hc
    repeat' (first
      | refine T_iload_n (pc1 := 1) (pc := 0) k_M_done_0 rfl rfl ?_
      | refine sw_M_done_1 (fun hc => ?_) (fun hc => ?_) (fun hc => ?_) (fun hc => ?_) (fun hc => ?_) (fun hc => ?_) (fun hc => ?_) (fun hc => ?_) (fun hc => ?_)
      | refine T_iload_n (pc1 := 49) (pc := 48) k_M_done_48 rfl rfl ?_
      | (with_reducible refine T_if_neN (tgt := 56) (pc1 := 52) (pc := 49) k_M_done_49 (by decide) (by decide) (by omega) (fun hc => ?_) (fun hc => ?_) <;> first | (exfalso; omega) | skip)
      | refine T_if_ne_t (tgt := 56) (pc := 49) k_M_done_49 rfl (by decide) ?_
      | refine T_if_ne_f (tgt := 56) (pc1 := 52) (pc := 49) k_M_done_49 rfl rfl (by decide) ?_
      | refine T_if_ne (tgt := 56) (pc1 := 52) (pc := 49) k_M_done_49 rfl rfl (fun hc => ?_) (fun hc => ?_)
      | refine T_iload_n (pc1 := 53) (pc := 52) k_M_done_52 rfl rfl ?_
      | (with_reducible refine T_if_eqN (tgt := 60) (pc1 := 56) (pc := 53) k_M_done_53 (by decide) (by decide) (by omega) (fun hc => ?_) (fun hc => ?_) <;> first | (exfalso; omega) | skip)
      | refine T_if_eq_t (tgt := 60) (pc := 53) k_M_done_53 rfl (by decide) ?_
      | refine T_if_eq_f (tgt := 60) (pc1 := 56) (pc := 53) k_M_done_53 rfl rfl (by decide) ?_
      | refine T_if_eq (tgt := 60) (pc1 := 56) (pc := 53) k_M_done_53 rfl rfl (fun hc => ?_) (fun hc => ?_)
      | refine T_iconst (v := (nI 1)) (pc1 := 57) (pc := 56) k_M_done_56 rfl (by decide) ?_
      | refine T_goto (tgt := 61) (pc := 57) k_M_done_57 rfl ?_
      | refine T_iconst (v := (nI 0)) (pc1 := 61) (pc := 60) k_M_done_60 rfl (by decide) ?_
      | refine T_retI (pc := 61) k_M_done_61 rfl (by first | rfl | decide | assumption) ?_
      | refine T_iload_n (pc1 := 63) (pc := 62) k_M_done_62 rfl rfl ?_
      | (with_reducible refine T_if_eqN (tgt := 74) (pc1 := 66) (pc := 63) k_M_done_63 (by decide) (by decide) (by omega) (fun hc => ?_) (fun hc => ?_) <;> first | (exfalso; omega) | skip)
      | refine T_if_eq_t (tgt := 74) (pc := 63) k_M_done_63 rfl (by decide) ?_
      | refine T_if_eq_f (tgt := 74) (pc1 := 66) (pc := 63) k_M_done_63 rfl rfl (by decide) ?_
      | refine T_if_eq (tgt := 74) (pc1 := 66) (pc := 63) k_M_done_63 rfl rfl (fun hc => ?_) (fun hc => ?_)
      | refine T_iload_n (pc1 := 67) (pc := 66) k_M_done_66 rfl rfl ?_
      | (with_reducible refine T_if_eqN (tgt := 74) (pc1 := 70) (pc := 67) k_M_done_67 (by decide) (by decide) (by omega) (fun hc => ?_) (fun hc => ?_) <;> first | (exfalso; omega) | skip)
      | refine T_if_eq_t (tgt := 74) (pc := 67) k_M_done_67 rfl (by decide) ?_
      | refine T_if_eq_f (tgt := 74) (pc1 := 70) (pc := 67) k_M_done_67 rfl rfl (by decide) ?_
      | refine T_if_eq (tgt := 74) (pc1 := 70) (pc := 67) k_M_done_67 rfl rfl (fun hc => ?_) (fun hc => ?_)
      | refine T_iconst (v := (nI 1)) (pc1 := 71) (pc := 70) k_M_done_70 rfl (by decide) ?_
      | refine T_goto (tgt := 75) (pc := 71) k_M_done_71 rfl ?_
      | refine T_iconst (v := (nI 0)) (pc1 := 75) (pc := 74) k_M_done_74 rfl (by decide) ?_
      | refine T_retI (pc := 75) k_M_done_75 rfl (by first | rfl | decide | assumption) ?_
      | refine T_iload_n (pc1 := 77) (pc := 76) k_M_done_76 rfl rfl ?_
      | refine T_iload_n (pc1 := 78) (pc := 77) k_M_done_77 rfl rfl ?_
      | (with_reducible refine T_icmp_geN (tgt := 85) (pc1 := 81) (pc := 78) k_M_done_78 (by decide) (by decide) (by omega) (by omega) (fun hc => ?_) (fun hc => ?_) <;> first | (exfalso; omega) | skip)
      | refine T_icmp_ge_t (tgt := 85) (pc := 78) k_M_done_78 rfl (by decide) ?_
      | refine T_icmp_ge_f (tgt := 85) (pc1 := 81) (pc := 78) k_M_done_78 rfl rfl (by decide) ?_
      | refine T_icmp_ge (tgt := 85) (pc1 := 81) (pc := 78) k_M_done_78 rfl rfl (fun hc => ?_) (fun hc => ?_)
      | refine T_iconst (v := (nI 1)) (pc1 := 82) (pc := 81) k_M_done_81 rfl (by decide) ?_
      | refine T_goto (tgt := 86) (pc := 82) k_M_done_82 rfl ?_
      | refine T_iconst (v := (nI 0)) (pc1 := 86) (pc := 85) k_M_done_85 rfl (by decide) ?_
      | refine T_retI (pc := 86) k_M_done_86 rfl (by first | rfl | decide | assumption) ?_
      | refine T_iload_n (pc1 := 88) (pc := 87) k_M_done_87 rfl rfl ?_
      | refine T_iload_n (pc1 := 89) (pc := 88) k_M_done_88 rfl rfl ?_
      | (with_reducible refine T_icmp_neN (tgt := 96) (pc1 := 92) (pc := 89) k_M_done_89 (by decide) (by decide) (by omega) (by omega) (fun hc => ?_) (fun hc => ?_) <;> first | (exfalso; omega) | skip)
      | refine T_icmp_ne_t (tgt := 96) (pc := 89) k_M_done_89 rfl (by decide) ?_
      | refine T_icmp_ne_f (tgt := 96) (pc1 := 92) (pc := 89) k_M_done_89 rfl rfl (by decide) ?_
      | refine T_icmp_ne (tgt := 96) (pc1 := 92) (pc := 89) k_M_done_89 rfl rfl (fun hc => ?_) (fun hc => ?_)
      | refine T_iconst (v := (nI 1)) (pc1 := 93) (pc := 92) k_M_done_92 rfl (by decide) ?_
      | refine T_goto (tgt := 97) (pc := 93) k_M_done_93 rfl ?_
      | refine T_iconst (v := (nI 0)) (pc1 := 97) (pc := 96) k_M_done_96 rfl (by decide) ?_
      | refine T_retI (pc := 97) k_M_done_97 rfl (by first | rfl | decide | assumption) ?_
      | refine T_iload_n (pc1 := 99) (pc := 98) k_M_done_98 rfl rfl ?_
      | refine T_iload_n (pc1 := 100) (pc := 99) k_M_done_99 rfl rfl ?_
      | (with_reducible refine T_icmp_leN (tgt := 107) (pc1 := 103) (pc := 100) k_M_done_100 (by decide) (by decide) (by omega) (by omega) (fun hc => ?_) (fun hc => ?_) <;> first | (exfalso; omega) | skip)
      | refine T_icmp_le_t (tgt := 107) (pc := 100) k_M_done_100 rfl (by decide) ?_
      | refine T_icmp_le_f (tgt := 107) (pc1 := 103) (pc := 100) k_M_done_100 rfl rfl (by decide) ?_
      | refine T_icmp_le (tgt := 107) (pc1 := 103) (pc := 100) k_M_done_100 rfl rfl (fun hc => ?_) (fun hc => ?_)
      | refine T_iconst (v := (nI 1)) (pc1 := 104) (pc := 103) k_M_done_103 rfl (by decide) ?_
      | refine T_goto (tgt := 108) (pc := 104) k_M_done_104 rfl ?_
      | refine T_iconst (v := (nI 0)) (pc1 := 108) (pc := 107) k_M_done_107 rfl (by decide) ?_
      | refine T_retI (pc := 108) k_M_done_108 rfl (by first | rfl | decide | assumption) ?_
      | refine T_iload_n (pc1 := 110) (pc := 109) k_M_done_109 rfl rfl ?_
      | refine T_iload_n (pc1 := 111) (pc := 110) k_M_done_110 rfl rfl ?_
      | with_reducible refine T_iaddN (pc1 := 112) (pc := 111) k_M_done_111 (by decide) ?_
      | refine T_iadd (pc1 := 112) (pc := 111) k_M_done_111 rfl ?_
      | refine T_retI (pc := 112) k_M_done_112 rfl (by first | rfl | decide | assumption) ?_
      | refine T_iload_n (pc1 := 114) (pc := 113) k_M_done_113 rfl rfl ?_
      | refine T_iload_n (pc1 := 115) (pc := 114) k_M_done_114 rfl rfl ?_
      | with_reducible refine T_isubN (pc1 := 116) (pc := 115) k_M_done_115 (by decide) (by omega) ?_
      | refine T_isub (pc1 := 116) (pc := 115) k_M_done_115 rfl ?_
      | refine T_retI (pc := 116) k_M_done_116 rfl (by first | rfl | decide | assumption) ?_
      | refine T_iload_n (pc1 := 118) (pc := 117) k_M_done_117 rfl rfl ?_
      | refine T_iload_n (pc1 := 119) (pc := 118) k_M_done_118 rfl rfl ?_
      | with_reducible refine T_imulN (pc1 := 120) (pc := 119) k_M_done_119 (by decide) ?_
      | refine T_imul (pc1 := 120) (pc := 119) k_M_done_119 rfl ?_
      | refine T_retI (pc := 120) k_M_done_120 rfl (by first | rfl | decide | assumption) ?_
      | refine T_iload_n (pc1 := 122) (pc := 121) k_M_done_121 rfl rfl ?_
      | (with_reducible refine T_if_neN (tgt := 129) (pc1 := 125) (pc := 122) k_M_done_122 (by decide) (by decide) (by omega) (fun hc => ?_) (fun hc => ?_) <;> first | (exfalso; omega) | skip)
      | refine T_if_ne_t (tgt := 129) (pc := 122) k_M_done_122 rfl (by decide) ?_
      | refine T_if_ne_f (tgt := 129) (pc1 := 125) (pc := 122) k_M_done_122 rfl rfl (by decide) ?_
      | refine T_if_ne (tgt := 129) (pc1 := 125) (pc := 122) k_M_done_122 rfl rfl (fun hc => ?_) (fun hc => ?_)
      | refine T_iconst (v := (nI 0)) (pc1 := 126) (pc := 125) k_M_done_125 rfl (by decide) ?_
      | refine T_goto (tgt := 132) (pc := 126) k_M_done_126 rfl ?_
      | refine T_iload_n (pc1 := 130) (pc := 129) k_M_done_129 rfl rfl ?_
      | refine T_iload_n (pc1 := 131) (pc := 130) k_M_done_130 rfl rfl ?_
      | refine T_idiv (pc1 := 132) (pc := 131) k_M_done_131 rfl (by first | assumption | decide) ?_
      | refine T_retI (pc := 132) k_M_done_132 rfl (by first | rfl | decide | assumption) ?_)
    · exact kk _ (by show _ = (if a = b then nI 1 else nI 0); rw [if_neg (by assumption)])
    · exact kk _ (by show _ = (if a = b then nI 1 else nI 0); rw [if_pos (Decidable.not_not.mp (by assumption))])
  · obtain rfl : x = -22 := toInt_inj hc
    repeat' (first
      | refine T_iload_n (pc1 := 1) (pc := 0) k_M_done_0 rfl rfl ?_
      | refine sw_M_done_1 (fun hc => ?_) (fun hc => ?_) (fun hc => ?_) (fun hc => ?_) (fun hc => ?_) (fun hc => ?_) (fun hc => ?_) (fun hc => ?_) (fun hc => ?_)
      | refine T_iload_n (pc1 := 49) (pc := 48) k_M_done_48 rfl rfl ?_
      | (with_reducible refine T_if_neN (tgt := 56) (pc1 := 52) (pc := 49) k_M_done_49 (by decide) (by decide) (by omega) (fun hc => ?_) (fun hc => ?_) <;> first | (exfalso; omega) | skip)
      | refine T_if_ne_t (tgt := 56) (pc := 49) k_M_done_49 rfl (by decide) ?_
      | refine T_if_ne_f (tgt := 56) (pc1 := 52) (pc := 49) k_M_done_49 rfl rfl (by decide) ?_
      | refine T_if_ne (tgt := 56) (pc1 := 52) (pc := 49) k_M_done_49 rfl rfl (fun hc => ?_) (fun hc => ?_)
      | refine T_iload_n (pc1 := 53) (pc := 52) k_M_done_52 rfl rfl ?_
      | (with_reducible refine T_if_eqN (tgt := 60) (pc1 := 56) (pc := 53) k_M_done_53 (by decide) (by decide) (by omega) (fun hc => ?_) (fun hc => ?_) <;> first | (exfalso; omega) | skip)
      | refine T_if_eq_t (tgt := 60) (pc := 53) k_M_done_53 rfl (by decide) ?_
      | refine T_if_eq_f (tgt := 60) (pc1 := 56) (pc := 53) k_M_done_53 rfl rfl (by decide) ?_
      | refine T_if_eq (tgt := 60) (pc1 := 56) (pc := 53) k_M_done_53 rfl rfl (fun hc => ?_) (fun hc => ?_)
      | refine T_iconst (v := (nI 1)) (pc1 := 57) (pc := 56) k_M_done_56 rfl (by decide) ?_
      | refine T_goto (tgt := 61) (pc := 57) k_M_done_57 rfl ?_
      | refine T_iconst (v := (nI 0)) (pc1 := 61) (pc := 60) k_M_done_60 rfl (by decide) ?_
      | refine T_retI (pc := 61) k_M_done_61 rfl (by first | rfl | decide | assumption) ?_
      | refine T_iload_n (pc1 := 63) (pc := 62) k_M_done_62 rfl rfl ?_
      | (with_reducible refine T_if_eqN (tgt := 74) (pc1 := 66) (pc := 63) k_M_done_63 (by decide) (by decide) (by omega) (fun hc => ?_) (fun hc => ?_) <;> first | (exfalso; omega) | skip)
      | refine T_if_eq_t (tgt := 74) (pc := 63) k_M_done_63 rfl (by decide) ?_
      | refine T_if_eq_f (tgt := 74) (pc1 := 66) (pc := 63) k_M_done_63 rfl rfl (by decide) ?_
      | refine T_if_eq (tgt := 74) (pc1 := 66) (pc := 63) k_M_done_63 rfl rfl (fun hc => ?_) (fun hc => ?_)
      | refine T_iload_n (pc1 := 67) (pc := 66) k_M_done_66 rfl rfl ?_
      | (with_reducible refine T_if_eqN (tgt := 74) (pc1 := 70) (pc := 67) k_M_done_67 (by decide) (by decide) (by omega) (fun hc => ?_) (fun hc => ?_) <;> first | (exfalso; omega) | skip)
      | refine T_if_eq_t (tgt := 74) (pc := 67) k_M_done_67 rfl (by decide) ?_
      | refine T_if_eq_f (tgt := 74) (pc1 := 70) (pc := 67) k_M_done_67 rfl rfl (by decide) ?_
      | refine T_if_eq (tgt := 74) (pc1 := 70) (pc := 67) k_M_done_67 rfl rfl (fun hc => ?_) (fun hc => ?_)
      | refine T_iconst (v := (nI 1)) (pc1 := 71) (pc := 70) k_M_done_70 rfl (by decide) ?_
      | refine T_goto (tgt := 75) (pc := 71) k_M_done_71 rfl ?_
      | refine T_iconst (v := (nI 0)) (pc1 := 75) (pc := 74) k_M_done_74 rfl (by decide) ?_
      | refine T_retI (pc := 75) k_M_done_75 rfl (by first | rfl | decide | assumption) ?_
      | refine T_iload_n (pc1 := 77) (pc := 76) k_M_done_76 rfl rfl ?_
      | refine T_iload_n (pc1 := 78) (pc := 77) k_M_done_77 rfl rfl ?_
      | (with_reducible refine T_icmp_geN (tgt := 85) (pc1 := 81) (pc := 78) k_M_done_78 (by decide) (by decide) (by omega) (by omega) (fun hc => ?_) (fun hc => ?_) <;> first | (exfalso; omega) | skip)
      | refine T_icmp_ge_t (tgt := 85) (pc := 78) k_M_done_78 rfl (by decide) ?_
      | refine T_icmp_ge_f (tgt := 85) (pc1 := 81) (pc := 78) k_M_done_78 rfl rfl (by decide) ?_
      | refine T_icmp_ge (tgt := 85) (pc1 := 81) (pc := 78) k_M_done_78 rfl rfl (fun hc => ?_) (fun hc => ?_)
      | refine T_iconst (v := (nI 1)) (pc1 := 82) (pc := 81) k_M_done_81 rfl (by decide) ?_
      | refine T_goto (tgt := 86) (pc := 82) k_M_done_82 rfl ?_
      | refine T_iconst (v := (nI 0)) (pc1 := 86) (pc := 85) k_M_done_85 rfl (by decide) ?_
      | refine T_retI (pc := 86) k_M_done_86 rfl (by first | rfl | decide | assumption) ?_
      | refine T_iload_n (pc1 := 88) (pc := 87) k_M_done_87 rfl rfl ?_
      | refine T_iload_n (pc1 := 89) (pc := 88) k_M_done_88 rfl rfl ?_
      | (with_reducible refine T_icmp_neN (tgt := 96) (pc1 := 92) (pc := 89) k_M_done_89 (by decide) (by decide) (by omega) (by omega) (fun hc => ?_) (fun hc => ?_) <;> first | (exfalso; omega) | skip)
      | refine T_icmp_ne_t (tgt := 96) (pc := 89) k_M_done_89 rfl (by decide) ?_
      | refine T_icmp_ne_f (tgt := 96) (pc1 := 92) (pc := 89) k_M_done_89 rfl rfl (by decide) ?_
      | refine T_icmp_ne (tgt := 96) (pc1 := 92) (pc := 89) k_M_done_89 rfl rfl (fun hc => ?_) (fun hc => ?_)
      | refine T_iconst (v := (nI 1)) (pc1 := 93) (pc := 92) k_M_done_92 rfl (by decide) ?_
      | refine T_goto (tgt := 97) (pc := 93) k_M_done_93 rfl ?_
      | refine T_iconst (v := (nI 0)) (pc1 := 97) (pc := 96) k_M_done_96 rfl (by decide) ?_
      | refine T_retI (pc := 97) k_M_done_97 rfl (by first | rfl | decide | assumption) ?_
      | refine T_iload_n (pc1 := 99) (pc := 98) k_M_done_98 rfl rfl ?_
      | refine T_iload_n (pc1 := 100) (pc := 99) k_M_done_99 rfl rfl ?_
      | (with_reducible refine T_icmp_leN (tgt := 107) (pc1 := 103) (pc := 100) k_M_done_100 (by decide) (by decide) (by omega) (by omega) (fun hc => ?_) (fun hc => ?_) <;> first | (exfalso; omega) | skip)
      | refine T_icmp_le_t (tgt := 107) (pc := 100) k_M_done_100 rfl (by decide) ?_
      | refine T_icmp_le_f (tgt := 107) (pc1 := 103) (pc := 100) k_M_done_100 rfl rfl (by decide) ?_
      | refine T_icmp_le (tgt := 107) (pc1 := 103) (pc := 100) k_M_done_100 rfl rfl (fun hc => ?_) (fun hc => ?_)
      | refine T_iconst (v := (nI 1)) (pc1 := 104) (pc := 103) k_M_done_103 rfl (by decide) ?_
      | refine T_goto (tgt := 108) (pc := 104) k_M_done_104 rfl ?_
      | refine T_iconst (v := (nI 0)) (pc1 := 108) (pc := 107) k_M_done_107 rfl (by decide) ?_
      | refine T_retI (pc := 108) k_M_done_108 rfl (by first | rfl | decide | assumption) ?_
      | refine T_iload_n (pc1 := 110) (pc := 109) k_M_done_109 rfl rfl ?_
      | refine T_iload_n (pc1 := 111) (pc := 110) k_M_done_110 rfl rfl ?_
      | with_reducible refine T_iaddN (pc1 := 112) (pc := 111) k_M_done_111 (by decide) ?_
      | refine T_iadd (pc1 := 112) (pc := 111) k_M_done_111 rfl ?_
      | refine T_retI (pc := 112) k_M_done_112 rfl (by first | rfl | decide | assumption) ?_
      | refine T_iload_n (pc1 := 114) (pc := 113) k_M_done_113 rfl rfl ?_
      | refine T_iload_n (pc1 := 115) (pc := 114) k_M_done_114 rfl rfl ?_
      | with_reducible refine T_isubN (pc1 := 116) (pc := 115) k_M_done_115 (by decide) (by omega) ?_
      | refine T_isub (pc1 := 116) (pc := 115) k_M_done_115 rfl ?_
      | refine T_retI (pc := 116) k_M_done_116 rfl (by first | rfl | decide | assumption) ?_
      | refine T_iload_n (pc1 := 118) (pc := 117) k_M_done_117 rfl rfl ?_
      | refine T_iload_n (pc1 := 119) (pc := 118) k_M_done_118 rfl rfl ?_
      | with_reducible refine T_imulN (pc1 := 120) (pc := 119) k_M_done_119 (by decide) ?_
      | refine T_imul (pc1 := 120) (pc := 119) k_M_done_119 rfl ?_
      | refine T_retI (pc := 120) k_M_done_120 rfl (by first | rfl | decide | assumption) ?_
      | refine T_iload_n (pc1 := 122) (pc := 121) k_M_done_121 rfl rfl ?_
      | (with_reducible refine T_if_neN (tgt := 129) (pc1 := 125) (pc := 122) k_M_done_122 (by decide) (by decide) (by omega) (fun hc => ?_) (fun hc => ?_) <;> first | (exfalso; omega) | skip)
      | refine T_if_ne_t (tgt := 129) (pc := 122) k_M_done_122 rfl (by decide) ?_
      | refine T_if_ne_f (tgt := 129) (pc1 := 125) (pc := 122) k_M_done_122 rfl rfl (by decide) ?_
      | refine T_if_ne (tgt := 129) (pc1 := 125) (pc := 122) k_M_done_122 rfl rfl (fun hc => ?_) (fun hc => ?_)
      | refine T_iconst (v := (nI 0)) (pc1 := 126) (pc := 125) k_M_done_125 rfl (by decide) ?_
      | refine T_goto (tgt := 132) (pc := 126) k_M_done_126 rfl ?_
      | refine T_iload_n (pc1 := 130) (pc := 129) k_M_done_129 rfl rfl ?_
      | refine T_iload_n (pc1 := 131) (pc := 130) k_M_done_130 rfl rfl ?_
      | refine T_idiv (pc1 := 132) (pc := 131) k_M_done_131 rfl (by first | assumption | decide) ?_
      | refine T_retI (pc := 132) k_M_done_132 rfl (by first | rfl | decide | assumption) ?_)
    · exact kk _ (by show _ = (if a < b then nI 1 else nI 0); rw [if_neg (Int32.not_lt.mpr (by assumption))])
    · exact kk _ (by show _ = (if a < b then nI 1 else nI 0); rw [if_pos (Int32.not_le.mp (by assumption))])
  · obtain rfl : x = -21 := toInt_inj hc
    repeat' (first
      | refine T_iload_n (pc1 := 1) (pc := 0) k_M_done_0 rfl rfl ?_
      | refine sw_M_done_1 (fun hc => ?_) (fun hc => ?_) (fun hc => ?_) (fun hc => ?_) (fun hc => ?_) (fun hc => ?_) (fun hc => ?_) (fun hc => ?_) (fun hc => ?_)
      | refine T_iload_n (pc1 := 49) (pc := 48) k_M_done_48 rfl rfl ?_
      | (with_reducible refine T_if_neN (tgt := 56) (pc1 := 52) (pc := 49) k_M_done_49 (by decide) (by decide) (by omega) (fun hc => ?_) (fun hc => ?_) <;> first | (exfalso; omega) | skip)
      | refine T_if_ne_t (tgt := 56) (pc := 49) k_M_done_49 rfl (by decide) ?_
      | refine T_if_ne_f (tgt := 56) (pc1 := 52) (pc := 49) k_M_done_49 rfl rfl (by decide) ?_
      | refine T_if_ne (tgt := 56) (pc1 := 52) (pc := 49) k_M_done_49 rfl rfl (fun hc => ?_) (fun hc => ?_)
      | refine T_iload_n (pc1 := 53) (pc := 52) k_M_done_52 rfl rfl ?_
      | (with_reducible refine T_if_eqN (tgt := 60) (pc1 := 56) (pc := 53) k_M_done_53 (by decide) (by decide) (by omega) (fun hc => ?_) (fun hc => ?_) <;> first | (exfalso; omega) | skip)
      | refine T_if_eq_t (tgt := 60) (pc := 53) k_M_done_53 rfl (by decide) ?_
      | refine T_if_eq_f (tgt := 60) (pc1 := 56) (pc := 53) k_M_done_53 rfl rfl (by decide) ?_
      | refine T_if_eq (tgt := 60) (pc1 := 56) (pc := 53) k_M_done_53 rfl rfl (fun hc => ?_) (fun hc => ?_)
      | refine T_iconst (v := (nI 1)) (pc1 := 57) (pc := 56) k_M_done_56 rfl (by decide) ?_
      | refine T_goto (tgt := 61) (pc := 57) k_M_done_57 rfl ?_
      | refine T_iconst (v := (nI 0)) (pc1 := 61) (pc := 60) k_M_done_60 rfl (by decide) ?_
      | refine T_retI (pc := 61) k_M_done_61 rfl (by first | rfl | decide | assumption) ?_
      | refine T_iload_n (pc1 := 63) (pc := 62) k_M_done_62 rfl rfl ?_
      | (with_reducible refine T_if_eqN (tgt := 74) (pc1 := 66) (pc := 63) k_M_done_63 (by decide) (by decide) (by omega) (fun hc => ?_) (fun hc => ?_) <;> first | (exfalso; omega) | skip)
      | refine T_if_eq_t (tgt := 74) (pc := 63) k_M_done_63 rfl (by decide) ?_
      | refine T_if_eq_f (tgt := 74) (pc1 := 66) (pc := 63) k_M_done_63 rfl rfl (by decide) ?_
      | refine T_if_eq (tgt := 74) (pc1 := 66) (pc := 63) k_M_done_63 rfl rfl (fun hc => ?_) (fun hc => ?_)
      | refine T_iload_n (pc1 := 67) (pc := 66) k_M_done_66 rfl rfl ?_
      | (with_reducible refine T_if_eqN (tgt := 74) (pc1 := 70) (pc := 67) k_M_done_67 (by decide) (by decide) (by omega) (fun hc => ?_) (fun hc => ?_) <;> first | (exfalso; omega) | skip)
      | refine T_if_eq_t (tgt := 74) (pc := 67) k_M_done_67 rfl (by decide) ?_
      | refine T_if_eq_f (tgt := 74) (pc1 := 70) (pc := 67) k_M_done_67 rfl rfl (by decide) ?_
      | refine T_if_eq (tgt := 74) (pc1 := 70) (pc := 67) k_M_done_67 rfl rfl (fun hc => ?_) (fun hc => ?_)
      | refine T_iconst (v := (nI 1)) (pc1 := 71) (pc := 70) k_M_done_70 rfl (by decide) ?_
      | refine T_goto (tgt := 75) (pc := 71) k_M_done_71 rfl ?_
      | refine T_iconst (v := (nI 0)) (pc1 := 75) (pc := 74) k_M_done_74 rfl (by decide) ?_
      | refine T_retI (pc := 75) k_M_done_75 rfl (by first | rfl | decide | assumption) ?_
      | refine T_iload_n (pc1 := 77) (pc := 76) k_M_done_76 rfl rfl ?_
      | refine T_iload_n (pc1 := 78) (pc := 77) k_M_done_77 rfl rfl ?_
      | (with_reducible refine T_icmp_geN (tgt := 85) (pc1 := 81) (pc := 78) k_M_done_78 (by decide) (by decide) (by omega) (by omega) (fun hc => ?_) (fun hc => ?_) <;> first | (exfalso; omega) | skip)
      | refine T_icmp_ge_t (tgt := 85) (pc := 78) k_M_done_78 rfl (by decide) ?_
      | refine T_icmp_ge_f (tgt := 85) (pc1 := 81) (pc := 78) k_M_done_78 rfl rfl (by decide) ?_
      | refine T_icmp_ge (tgt := 85) (pc1 := 81) (pc := 78) k_M_done_78 rfl rfl (fun hc => ?_) (fun hc => ?_)
      | refine T_iconst (v := (nI 1)) (pc1 := 82) (pc := 81) k_M_done_81 rfl (by decide) ?_
      | refine T_goto (tgt := 86) (pc := 82) k_M_done_82 rfl ?_
      | refine T_iconst (v := (nI 0)) (pc1 := 86) (pc := 85) k_M_done_85 rfl (by decide) ?_
      | refine T_retI (pc := 86) k_M_done_86 rfl (by first | rfl | decide | assumption) ?_
      | refine T_iload_n (pc1 := 88) (pc := 87) k_M_done_87 rfl rfl ?_
      | refine T_iload_n (pc1 := 89) (pc := 88) k_M_done_88 rfl rfl ?_
      | (with_reducible refine T_icmp_neN (tgt := 96) (pc1 := 92) (pc := 89) k_M_done_89 (by decide) (by decide) (by omega) (by omega) (fun hc => ?_) (fun hc => ?_) <;> first | (exfalso; omega) | skip)
      | refine T_icmp_ne_t (tgt := 96) (pc := 89) k_M_done_89 rfl (by decide) ?_
      | refine T_icmp_ne_f (tgt := 96) (pc1 := 92) (pc := 89) k_M_done_89 rfl rfl (by decide) ?_
      | refine T_icmp_ne (tgt := 96) (pc1 := 92) (pc := 89) k_M_done_89 rfl rfl (fun hc => ?_) (fun hc => ?_)
      | refine T_iconst (v := (nI 1)) (pc1 := 93) (pc := 92) k_M_done_92 rfl (by decide) ?_
      | refine T_goto (tgt := 97) (pc := 93) k_M_done_93 rfl ?_
      | refine T_iconst (v := (nI 0)) (pc1 := 97) (pc := 96) k_M_done_96 rfl (by decide) ?_
      | refine T_retI (pc := 97) k_M_done_97 rfl (by first | rfl | decide | assumption) ?_
      | refine T_iload_n (pc1 := 99) (pc := 98) k_M_done_98 rfl rfl ?_
      | refine T_iload_n (pc1 := 100) (pc := 99) k_M_done_99 rfl rfl ?_
      | (with_reducible refine T_icmp_leN (tgt := 107) (pc1 := 103) (pc := 100) k_M_done_100 (by decide) (by decide) (by omega) (by omega) (fun hc => ?_) (fun hc => ?_) <;> first | (exfalso; omega) | skip)
      | refine T_icmp_le_t (tgt := 107) (pc := 100) k_M_done_100 rfl (by decide) ?_
      | refine T_icmp_le_f (tgt := 107) (pc1 := 103) (pc := 100) k_M_done_100 rfl rfl (by decide) ?_
      | refine T_icmp_le (tgt := 107) (pc1 := 103) (pc := 100) k_M_done_100 rfl rfl (fun hc => ?_) (fun hc => ?_)
      | refine T_iconst (v := (nI 1)) (pc1 := 104) (pc := 103) k_M_done_103 rfl (by decide) ?_
      | refine T_goto (tgt := 108) (pc := 104) k_M_done_104 rfl ?_
      | refine T_iconst (v := (nI 0)) (pc1 := 108) (pc := 107) k_M_done_107 rfl (by decide) ?_
      | refine T_retI (pc := 108) k_M_done_108 rfl (by first | rfl | decide | assumption) ?_
      | refine T_iload_n (pc1 := 110) (pc := 109) k_M_done_109 rfl rfl ?_
      | refine T_iload_n (pc1 := 111) (pc := 110) k_M_done_110 rfl rfl ?_
      | with_reducible refine T_iaddN (pc1 := 112) (pc := 111) k_M_done_111 (by decide) ?_
      | refine T_iadd (pc1 := 112) (pc := 111) k_M_done_111 rfl ?_
      | refine T_retI (pc := 112) k_M_done_112 rfl (by first | rfl | decide | assumption) ?_
      | refine T_iload_n (pc1 := 114) (pc := 113) k_M_done_113 rfl rfl ?_
      | refine T_iload_n (pc1 := 115) (pc := 114) k_M_done_114 rfl rfl ?_
      | with_reducible refine T_isubN (pc1 := 116) (pc := 115) k_M_done_115 (by decide) (by omega) ?_
      | refine T_isub (pc1 := 116) (pc := 115) k_M_done_115 rfl ?_
      | refine T_retI (pc := 116) k_M_done_116 rfl (by first | rfl | decide | assumption) ?_
      | refine T_iload_n (pc1 := 118) (pc := 117) k_M_done_117 rfl rfl ?_
      | refine T_iload_n (pc1 := 119) (pc := 118) k_M_done_118 rfl rfl ?_
      | with_reducible refine T_imulN (pc1 := 120) (pc := 119) k_M_done_119 (by decide) ?_
      | refine T_imul (pc1 := 120) (pc := 119) k_M_done_119 rfl ?_
      | refine T_retI (pc := 120) k_M_done_120 rfl (by first | rfl | decide | assumption) ?_
      | refine T_iload_n (pc1 := 122) (pc := 121) k_M_done_121 rfl rfl ?_
      | (with_reducible refine T_if_neN (tgt := 129) (pc1 := 125) (pc := 122) k_M_done_122 (by decide) (by decide) (by omega) (fun hc => ?_) (fun hc => ?_) <;> first | (exfalso; omega) | skip)
      | refine T_if_ne_t (tgt := 129) (pc := 122) k_M_done_122 rfl (by decide) ?_
      | refine T_if_ne_f (tgt := 129) (pc1 := 125) (pc := 122) k_M_done_122 rfl rfl (by decide) ?_
      | refine T_if_ne (tgt := 129) (pc1 := 125) (pc := 122) k_M_done_122 rfl rfl (fun hc => ?_) (fun hc => ?_)
      | refine T_iconst (v := (nI 0)) (pc1 := 126) (pc := 125) k_M_done_125 rfl (by decide) ?_
      | refine T_goto (tgt := 132) (pc := 126) k_M_done_126 rfl ?_
      | refine T_iload_n (pc1 := 130) (pc := 129) k_M_done_129 rfl rfl ?_
      | refine T_iload_n (pc1 := 131) (pc := 130) k_M_done_130 rfl rfl ?_
      | refine T_idiv (pc1 := 132) (pc := 131) k_M_done_131 rfl (by first | assumption | decide) ?_
      | refine T_retI (pc := 132) k_M_done_132 rfl (by first | rfl | decide | assumption) ?_)
    all_goals (refine kk _ ?_; show _ = (if a = 0 ∨ b = 0 then nI 0 else nI 1); simp [*])
  · obtain rfl : x = -20 := toInt_inj hc
    repeat' (first
      | refine T_iload_n (pc1 := 1) (pc := 0) k_M_done_0 rfl rfl ?_
      | refine sw_M_done_1 (fun hc => ?_) (fun hc => ?_) (fun hc => ?_) (fun hc => ?_) (fun hc => ?_) (fun hc => ?_) (fun hc => ?_) (fun hc => ?_) (fun hc => ?_)
      | refine T_iload_n (pc1 := 49) (pc := 48) k_M_done_48 rfl rfl ?_
      | (with_reducible refine T_if_neN (tgt := 56) (pc1 := 52) (pc := 49) k_M_done_49 (by decide) (by decide) (by omega) (fun hc => ?_) (fun hc => ?_) <;> first | (exfalso; omega) | skip)
      | refine T_if_ne_t (tgt := 56) (pc := 49) k_M_done_49 rfl (by decide) ?_
      | refine T_if_ne_f (tgt := 56) (pc1 := 52) (pc := 49) k_M_done_49 rfl rfl (by decide) ?_
      | refine T_if_ne (tgt := 56) (pc1 := 52) (pc := 49) k_M_done_49 rfl rfl (fun hc => ?_) (fun hc => ?_)
      | refine T_iload_n (pc1 := 53) (pc := 52) k_M_done_52 rfl rfl ?_
      | (with_reducible refine T_if_eqN (tgt := 60) (pc1 := 56) (pc := 53) k_M_done_53 (by decide) (by decide) (by omega) (fun hc => ?_) (fun hc => ?_) <;> first | (exfalso; omega) | skip)
      | refine T_if_eq_t (tgt := 60) (pc := 53) k_M_done_53 rfl (by decide) ?_
      | refine T_if_eq_f (tgt := 60) (pc1 := 56) (pc := 53) k_M_done_53 rfl rfl (by decide) ?_
      | refine T_if_eq (tgt := 60) (pc1 := 56) (pc := 53) k_M_done_53 rfl rfl (fun hc => ?_) (fun hc => ?_)
      | refine T_iconst (v := (nI 1)) (pc1 := 57) (pc := 56) k_M_done_56 rfl (by decide) ?_
      | refine T_goto (tgt := 61) (pc := 57) k_M_done_57 rfl ?_
      | refine T_iconst (v := (nI 0)) (pc1 := 61) (pc := 60) k_M_done_60 rfl (by decide) ?_
      | refine T_retI (pc := 61) k_M_done_61 rfl (by first | rfl | decide | assumption) ?_
      | refine T_iload_n (pc1 := 63) (pc := 62) k_M_done_62 rfl rfl ?_
      | (with_reducible refine T_if_eqN (tgt := 74) (pc1 := 66) (pc := 63) k_M_done_63 (by decide) (by decide) (by omega) (fun hc => ?_) (fun hc => ?_) <;> first | (exfalso; omega) | skip)
      | refine T_if_eq_t (tgt := 74) (pc := 63) k_M_done_63 rfl (by decide) ?_
      | refine T_if_eq_f (tgt := 74) (pc1 := 66) (pc := 63) k_M_done_63 rfl rfl (by decide) ?_
      | refine T_if_eq (tgt := 74) (pc1 := 66) (pc := 63) k_M_done_63 rfl rfl (fun hc => ?_) (fun hc => ?_)
      | refine T_iload_n (pc1 := 67) (pc := 66) k_M_done_66 rfl rfl ?_
      | (with_reducible refine T_if_eqN (tgt := 74) (pc1 := 70) (pc := 67) k_M_done_67 (by decide) (by decide) (by omega) (fun hc => ?_) (fun hc => ?_) <;> first | (exfalso; omega) | skip)
      | refine T_if_eq_t (tgt := 74) (pc := 67) k_M_done_67 rfl (by decide) ?_
      | refine T_if_eq_f (tgt := 74) (pc1 := 70) (pc := 67) k_M_done_67 rfl rfl (by decide) ?_
      | refine T_if_eq (tgt := 74) (pc1 := 70) (pc := 67) k_M_done_67 rfl rfl (fun hc => ?_) (fun hc => ?_)
      | refine T_iconst (v := (nI 1)) (pc1 := 71) (pc := 70) k_M_done_70 rfl (by decide) ?_
      | refine T_goto (tgt := 75) (pc := 71) k_M_done_71 rfl ?_
      | refine T_iconst (v := (nI 0)) (pc1 := 75) (pc := 74) k_M_done_74 rfl (by decide) ?_
      | refine T_retI (pc := 75) k_M_done_75 rfl (by first | rfl | decide | assumption) ?_
      | refine T_iload_n (pc1 := 77) (pc := 76) k_M_done_76 rfl rfl ?_
      | refine T_iload_n (pc1 := 78) (pc := 77) k_M_done_77 rfl rfl ?_
      | (with_reducible refine T_icmp_geN (tgt := 85) (pc1 := 81) (pc := 78) k_M_done_78 (by decide) (by decide) (by omega) (by omega) (fun hc => ?_) (fun hc => ?_) <;> first | (exfalso; omega) | skip)
      | refine T_icmp_ge_t (tgt := 85) (pc := 78) k_M_done_78 rfl (by decide) ?_
      | refine T_icmp_ge_f (tgt := 85) (pc1 := 81) (pc := 78) k_M_done_78 rfl rfl (by decide) ?_
      | refine T_icmp_ge (tgt := 85) (pc1 := 81) (pc := 78) k_M_done_78 rfl rfl (fun hc => ?_) (fun hc => ?_)
      | refine T_iconst (v := (nI 1)) (pc1 := 82) (pc := 81) k_M_done_81 rfl (by decide) ?_
      | refine T_goto (tgt := 86) (pc := 82) k_M_done_82 rfl ?_
      | refine T_iconst (v := (nI 0)) (pc1 := 86) (pc := 85) k_M_done_85 rfl (by decide) ?_
      | refine T_retI (pc := 86) k_M_done_86 rfl (by first | rfl | decide | assumption) ?_
      | refine T_iload_n (pc1 := 88) (pc := 87) k_M_done_87 rfl rfl ?_
      | refine T_iload_n (pc1 := 89) (pc := 88) k_M_done_88 rfl rfl ?_
      | (with_reducible refine T_icmp_neN (tgt := 96) (pc1 := 92) (pc := 89) k_M_done_89 (by decide) (by decide) (by omega) (by omega) (fun hc => ?_) (fun hc => ?_) <;> first | (exfalso; omega) | skip)
      | refine T_icmp_ne_t (tgt := 96) (pc := 89) k_M_done_89 rfl (by decide) ?_
      | refine T_icmp_ne_f (tgt := 96) (pc1 := 92) (pc := 89) k_M_done_89 rfl rfl (by decide) ?_
      | refine T_icmp_ne (tgt := 96) (pc1 := 92) (pc := 89) k_M_done_89 rfl rfl (fun hc => ?_) (fun hc => ?_)
      | refine T_iconst (v := (nI 1)) (pc1 := 93) (pc := 92) k_M_done_92 rfl (by decide) ?_
      | refine T_goto (tgt := 97) (pc := 93) k_M_done_93 rfl ?_
      | refine T_iconst (v := (nI 0)) (pc1 := 97) (pc := 96) k_M_done_96 rfl (by decide) ?_
      | refine T_retI (pc := 97) k_M_done_97 rfl (by first | rfl | decide | assumption) ?_
      | refine T_iload_n (pc1 := 99) (pc := 98) k_M_done_98 rfl rfl ?_
      | refine T_iload_n (pc1 := 100) (pc := 99) k_M_done_99 rfl rfl ?_
      | (with_reducible refine T_icmp_leN (tgt := 107) (pc1 := 103) (pc := 100) k_M_done_100 (by decide) (by decide) (by omega) (by omega) (fun hc => ?_) (fun hc => ?_) <;> first | (exfalso; omega) | skip)
      | refine T_icmp_le_t (tgt := 107) (pc := 100) k_M_done_100 rfl (by decide) ?_
      | refine T_icmp_le_f (tgt := 107) (pc1 := 103) (pc := 100) k_M_done_100 rfl rfl (by decide) ?_
      | refine T_icmp_le (tgt := 107) (pc1 := 103) (pc := 100) k_M_done_100 rfl rfl (fun hc => ?_) (fun hc => ?_)
      | refine T_iconst (v := (nI 1)) (pc1 := 104) (pc := 103) k_M_done_103 rfl (by decide) ?_
      | refine T_goto (tgt := 108) (pc := 104) k_M_done_104 rfl ?_
      | refine T_iconst (v := (nI 0)) (pc1 := 108) (pc := 107) k_M_done_107 rfl (by decide) ?_
      | refine T_retI (pc := 108) k_M_done_108 rfl (by first | rfl | decide | assumption) ?_
      | refine T_iload_n (pc1 := 110) (pc := 109) k_M_done_109 rfl rfl ?_
      | refine T_iload_n (pc1 := 111) (pc := 110) k_M_done_110 rfl rfl ?_
      | with_reducible refine T_iaddN (pc1 := 112) (pc := 111) k_M_done_111 (by decide) ?_
      | refine T_iadd (pc1 := 112) (pc := 111) k_M_done_111 rfl ?_
      | refine T_retI (pc := 112) k_M_done_112 rfl (by first | rfl | decide | assumption) ?_
      | refine T_iload_n (pc1 := 114) (pc := 113) k_M_done_113 rfl rfl ?_
      | refine T_iload_n (pc1 := 115) (pc := 114) k_M_done_114 rfl rfl ?_
      | with_reducible refine T_isubN (pc1 := 116) (pc := 115) k_M_done_115 (by decide) (by omega) ?_
      | refine T_isub (pc1 := 116) (pc := 115) k_M_done_115 rfl ?_
      | refine T_retI (pc := 116) k_M_done_116 rfl (by first | rfl | decide | assumption) ?_
      | refine T_iload_n (pc1 := 118) (pc := 117) k_M_done_117 rfl rfl ?_
      | refine T_iload_n (pc1 := 119) (pc := 118) k_M_done_118 rfl rfl ?_
      | with_reducible refine T_imulN (pc1 := 120) (pc := 119) k_M_done_119 (by decide) ?_
      | refine T_imul (pc1 := 120) (pc := 119) k_M_done_119 rfl ?_
      | refine T_retI (pc := 120) k_M_done_120 rfl (by first | rfl | decide | assumption) ?_
      | refine T_iload_n (pc1 := 122) (pc := 121) k_M_done_121 rfl rfl ?_
      | (with_reducible refine T_if_neN (tgt := 129) (pc1 := 125) (pc := 122) k_M_done_122 (by decide) (by decide) (by omega) (fun hc => ?_) (fun hc => ?_) <;> first | (exfalso; omega) | skip)
      | refine T_if_ne_t (tgt := 129) (pc := 122) k_M_done_122 rfl (by decide) ?_
      | refine T_if_ne_f (tgt := 129) (pc1 := 125) (pc := 122) k_M_done_122 rfl rfl (by decide) ?_
      | refine T_if_ne (tgt := 129) (pc1 := 125) (pc := 122) k_M_done_122 rfl rfl (fun hc => ?_) (fun hc => ?_)
      | refine T_iconst (v := (nI 0)) (pc1 := 126) (pc := 125) k_M_done_125 rfl (by decide) ?_
      | refine T_goto (tgt := 132) (pc := 126) k_M_done_126 rfl ?_
      | refine T_iload_n (pc1 := 130) (pc := 129) k_M_done_129 rfl rfl ?_
      | refine T_iload_n (pc1 := 131) (pc := 130) k_M_done_130 rfl rfl ?_
      | refine T_idiv (pc1 := 132) (pc := 131) k_M_done_131 rfl (by first | assumption | decide) ?_
      | refine T_retI (pc := 132) k_M_done_132 rfl (by first | rfl | decide | assumption) ?_)
    all_goals (refine kk _ ?_; show _ = (if a = 0 ∧ b = 0 then nI 0 else nI 1); simp [*])
  · have e := dn_dflt (a := a) (b := b) hc
    repeat' (first
      | refine T_iload_n (pc1 := 1) (pc := 0) k_M_done_0 rfl rfl ?_
      | refine sw_M_done_1 (fun hc => ?_) (fun hc => ?_) (fun hc => ?_) (fun hc => ?_) (fun hc => ?_) (fun hc => ?_) (fun hc => ?_) (fun hc => ?_) (fun hc => ?_)
      | refine T_iload_n (pc1 := 49) (pc := 48) k_M_done_48 rfl rfl ?_
      | (with_reducible refine T_if_neN (tgt := 56) (pc1 := 52) (pc := 49) k_M_done_49 (by decide) (by decide) (by omega) (fun hc => ?_) (fun hc => ?_) <;> first | (exfalso; omega) | skip)
      | refine T_if_ne_t (tgt := 56) (pc := 49) k_M_done_49 rfl (by decide) ?_
      | refine T_if_ne_f (tgt := 56) (pc1 := 52) (pc := 49) k_M_done_49 rfl rfl (by decide) ?_
      | refine T_if_ne (tgt := 56) (pc1 := 52) (pc := 49) k_M_done_49 rfl rfl (fun hc => ?_) (fun hc => ?_)
      | refine T_iload_n (pc1 := 53) (pc := 52) k_M_done_52 rfl rfl ?_
      | (with_reducible refine T_if_eqN (tgt := 60) (pc1 := 56) (pc := 53) k_M_done_53 (by decide) (by decide) (by omega) (fun hc => ?_) (fun hc => ?_) <;> first | (exfalso; omega) | skip)
      | refine T_if_eq_t (tgt := 60) (pc := 53) k_M_done_53 rfl (by decide) ?_
      | refine T_if_eq_f (tgt := 60) (pc1 := 56) (pc := 53) k_M_done_53 rfl rfl (by decide) ?_
      | refine T_if_eq (tgt := 60) (pc1 := 56) (pc := 53) k_M_done_53 rfl rfl (fun hc => ?_) (fun hc => ?_)
      | refine T_iconst (v := (nI 1)) (pc1 := 57) (pc := 56) k_M_done_56 rfl (by decide) ?_
      | refine T_goto (tgt := 61) (pc := 57) k_M_done_57 rfl ?_
      | refine T_iconst (v := (nI 0)) (pc1 := 61) (pc := 60) k_M_done_60 rfl (by decide) ?_
      | refine T_retI (pc := 61) k_M_done_61 rfl (by first | rfl | decide | assumption) ?_
      | refine T_iload_n (pc1 := 63) (pc := 62) k_M_done_62 rfl rfl ?_
      | (with_reducible refine T_if_eqN (tgt := 74) (pc1 := 66) (pc := 63) k_M_done_63 (by decide) (by decide) (by omega) (fun hc => ?_) (fun hc => ?_) <;> first | (exfalso; omega) | skip)
      | refine T_if_eq_t (tgt := 74) (pc := 63) k_M_done_63 rfl (by decide) ?_
      | refine T_if_eq_f (tgt := 74) (pc1 := 66) (pc := 63) k_M_done_63 rfl rfl (by decide) ?_
      | refine T_if_eq (tgt := 74) (pc1 := 66) (pc := 63) k_M_done_63 rfl rfl (fun hc => ?_) (fun hc => ?_)
      | refine T_iload_n (pc1 := 67) (pc := 66) k_M_done_66 rfl rfl ?_
      | (with_reducible refine T_if_eqN (tgt := 74) (pc1 := 70) (pc := 67) k_M_done_67 (by decide) (by decide) (by omega) (fun hc => ?_) (fun hc => ?_) <;> first | (exfalso; omega) | skip)
      | refine T_if_eq_t (tgt := 74) (pc := 67) k_M_done_67 rfl (by decide) ?_
      | refine T_if_eq_f (tgt := 74) (pc1 := 70) (pc := 67) k_M_done_67 rfl rfl (by decide) ?_
      | refine T_if_eq (tgt := 74) (pc1 := 70) (pc := 67) k_M_done_67 rfl rfl (fun hc => ?_) (fun hc => ?_)
      | refine T_iconst (v := (nI 1)) (pc1 := 71) (pc := 70) k_M_done_70 rfl (by decide) ?_
      | refine T_goto (tgt := 75) (pc := 71) k_M_done_71 rfl ?_
      | refine T_iconst (v := (nI 0)) (pc1 := 75) (pc := 74) k_M_done_74 rfl (by decide) ?_
      | refine T_retI (pc := 75) k_M_done_75 rfl (by first | rfl | decide | assumption) ?_
      | refine T_iload_n (pc1 := 77) (pc := 76) k_M_done_76 rfl rfl ?_
      | refine T_iload_n (pc1 := 78) (pc := 77) k_M_done_77 rfl rfl ?_
      | (with_reducible refine T_icmp_geN (tgt := 85) (pc1 := 81) (pc := 78) k_M_done_78 (by decide) (by decide) (by omega) (by omega) (fun hc => ?_) (fun hc => ?_) <;> first | (exfalso; omega) | skip)
      | refine T_icmp_ge_t (tgt := 85) (pc := 78) k_M_done_78 rfl (by decide) ?_
      | refine T_icmp_ge_f (tgt := 85) (pc1 := 81) (pc := 78) k_M_done_78 rfl rfl (by decide) ?_
      | refine T_icmp_ge (tgt := 85) (pc1 := 81) (pc := 78) k_M_done_78 rfl rfl (fun hc => ?_) (fun hc => ?_)
      | refine T_iconst (v := (nI 1)) (pc1 := 82) (pc := 81) k_M_done_81 rfl (by decide) ?_
      | refine T_goto (tgt := 86) (pc := 82) k_M_done_82 rfl ?_
      | refine T_iconst (v := (nI 0)) (pc1 := 86) (pc := 85) k_M_done_85 rfl (by decide) ?_
      | refine T_retI (pc := 86) k_M_done_86 rfl (by first | rfl | decide | assumption) ?_
      | refine T_iload_n (pc1 := 88) (pc := 87) k_M_done_87 rfl rfl ?_
      | refine T_iload_n (pc1 := 89) (pc := 88) k_M_done_88 rfl rfl ?_
      | (with_reducible refine T_icmp_neN (tgt := 96) (pc1 := 92) (pc := 89) k_M_done_89 (by decide) (by decide) (by omega) (by omega) (fun hc => ?_) (fun hc => ?_) <;> first | (exfalso; omega) | skip)
      | refine T_icmp_ne_t (tgt := 96) (pc := 89) k_M_done_89 rfl (by decide) ?_
      | refine T_icmp_ne_f (tgt := 96) (pc1 := 92) (pc := 89) k_M_done_89 rfl rfl (by decide) ?_
      | refine T_icmp_ne (tgt := 96) (pc1 := 92) (pc := 89) k_M_done_89 rfl rfl (fun hc => ?_) (fun hc => ?_)
      | refine T_iconst (v := (nI 1)) (pc1 := 93) (pc := 92) k_M_done_92 rfl (by decide) ?_
      | refine T_goto (tgt := 97) (pc := 93) k_M_done_93 rfl ?_
      | refine T_iconst (v := (nI 0)) (pc1 := 97) (pc := 96) k_M_done_96 rfl (by decide) ?_
      | refine T_retI (pc := 97) k_M_done_97 rfl (by first | rfl | decide | assumption) ?_
      | refine T_iload_n (pc1 := 99) (pc := 98) k_M_done_98 rfl rfl ?_
      | refine T_iload_n (pc1 := 100) (pc := 99) k_M_done_99 rfl rfl ?_
      | (with_reducible refine T_icmp_leN (tgt := 107) (pc1 := 103) (pc := 100) k_M_done_100 (by decide) (by decide) (by omega) (by omega) (fun hc => ?_) (fun hc => ?_) <;> first | (exfalso; omega) | skip)
      | refine T_icmp_le_t (tgt := 107) (pc := 100) k_M_done_100 rfl (by decide) ?_
      | refine T_icmp_le_f (tgt := 107) (pc1 := 103) (pc := 100) k_M_done_100 rfl rfl (by decide) ?_
      | refine T_icmp_le (tgt := 107) (pc1 := 103) (pc := 100) k_M_done_100 rfl rfl (fun hc => ?_) (fun hc => ?_)
      | refine T_iconst (v := (nI 1)) (pc1 := 104) (pc := 103) k_M_done_103 rfl (by decide) ?_
      | refine T_goto (tgt := 108) (pc := 104) k_M_done_104 rfl ?_
      | refine T_iconst (v := (nI 0)) (pc1 := 108) (pc := 107) k_M_done_107 rfl (by decide) ?_
      | refine T_retI (pc := 108) k_M_done_108 rfl (by first | rfl | decide | assumption) ?_
      | refine T_iload_n (pc1 := 110) (pc := 109) k_M_done_109 rfl rfl ?_
      | refine T_iload_n (pc1 := 111) (pc := 110) k_M_done_110 rfl rfl ?_
      | with_reducible refine T_iaddN (pc1 := 112) (pc := 111) k_M_done_111 (by decide) ?_
      | refine T_iadd (pc1 := 112) (pc := 111) k_M_done_111 rfl ?_
      | refine T_retI (pc := 112) k_M_done_112 rfl (by first | rfl | decide | assumption) ?_
      | refine T_iload_n (pc1 := 114) (pc := 113) k_M_done_113 rfl rfl ?_
      | refine T_iload_n (pc1 := 115) (pc := 114) k_M_done_114 rfl rfl ?_
      | with_reducible refine T_isubN (pc1 := 116) (pc := 115) k_M_done_115 (by decide) (by omega) ?_
      | refine T_isub (pc1 := 116) (pc := 115) k_M_done_115 rfl ?_
      | refine T_retI (pc := 116) k_M_done_116 rfl (by first | rfl | decide | assumption) ?_
      | refine T_iload_n (pc1 := 118) (pc := 117) k_M_done_117 rfl rfl ?_
      | refine T_iload_n (pc1 := 119) (pc := 118) k_M_done_118 rfl rfl ?_
      | with_reducible refine T_imulN (pc1 := 120) (pc := 119) k_M_done_119 (by decide) ?_
      | refine T_imul (pc1 := 120) (pc := 119) k_M_done_119 rfl ?_
      | refine T_retI (pc := 120) k_M_done_120 rfl (by first | rfl | decide | assumption) ?_
      | refine T_iload_n (pc1 := 122) (pc := 121) k_M_done_121 rfl rfl ?_
      | (with_reducible refine T_if_neN (tgt := 129) (pc1 := 125) (pc := 122) k_M_done_122 (by decide) (by decide) (by omega) (fun hc => ?_) (fun hc => ?_) <;> first | (exfalso; omega) | skip)
      | refine T_if_ne_t (tgt := 129) (pc := 122) k_M_done_122 rfl (by decide) ?_
      | refine T_if_ne_f (tgt := 129) (pc1 := 125) (pc := 122) k_M_done_122 rfl rfl (by decide) ?_
      | refine T_if_ne (tgt := 129) (pc1 := 125) (pc := 122) k_M_done_122 rfl rfl (fun hc => ?_) (fun hc => ?_)
      | refine T_iconst (v := (nI 0)) (pc1 := 126) (pc := 125) k_M_done_125 rfl (by decide) ?_
      | refine T_goto (tgt := 132) (pc := 126) k_M_done_126 rfl ?_
      | refine T_iload_n (pc1 := 130) (pc := 129) k_M_done_129 rfl rfl ?_
      | refine T_iload_n (pc1 := 131) (pc := 130) k_M_done_130 rfl rfl ?_
      | refine T_idiv (pc1 := 132) (pc := 131) k_M_done_131 rfl (by first | assumption | decide) ?_
      | refine T_retI (pc := 132) k_M_done_132 rfl (by first | rfl | decide | assumption) ?_)
    · exact kk _ (by rw [e, if_neg (by assumption)])
    · exact kk _ (by rw [e, if_pos (Decidable.not_not.mp (by assumption))])
end M2
