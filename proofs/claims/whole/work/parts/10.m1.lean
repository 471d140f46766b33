/-! The model's small methods. -/
section M1
variable {g : Geo} {I : IM} {K : Option Value → Geo → IM → Prop}
theorem c_M_within {v lo hi : Int32} (kt : lo ≤ v → v ≤ hi → K (some (.int (nI 1))) g I) (kf : ¬ (lo ≤ v ∧ v ≤ hi) → K (some (.int (nI 0))) g I) : Cl 1 M_M_within [.int v, .int lo, .int hi] g I K := by
  show Rl 1 M_M_within 0 [some (.int v), some (.int lo), some (.int hi)] [] g I K
  repeat' (first
    | refine T_iload_n (pc1 := 1) (pc := 0) k_M_within_0 rfl rfl ?_
    | refine T_iload_n (pc1 := 2) (pc := 1) k_M_within_1 rfl rfl ?_
    | (refine T_icmp_ltN (tgt := 14) (pc1 := 5) (pc := 2) k_M_within_2 rfl rfl (by omega) (by omega) (fun hc => ?_) (fun hc => ?_) <;> first | (exfalso; omega) | skip)
    | refine T_icmp_lt (tgt := 14) (pc1 := 5) (pc := 2) k_M_within_2 rfl rfl (fun hc => ?_) (fun hc => ?_)
    | refine T_iload_n (pc1 := 6) (pc := 5) k_M_within_5 rfl rfl ?_
    | refine T_iload_n (pc1 := 7) (pc := 6) k_M_within_6 rfl rfl ?_
    | (refine T_icmp_gtN (tgt := 14) (pc1 := 10) (pc := 7) k_M_within_7 rfl rfl (by omega) (by omega) (fun hc => ?_) (fun hc => ?_) <;> first | (exfalso; omega) | skip)
    | refine T_icmp_gt (tgt := 14) (pc1 := 10) (pc := 7) k_M_within_7 rfl rfl (fun hc => ?_) (fun hc => ?_)
    | refine T_iconst (v := (nI 1)) (pc1 := 11) (pc := 10) k_M_within_10 rfl (by decide) ?_
    | refine T_goto (tgt := 15) (pc := 11) k_M_within_11 rfl ?_
    | refine T_iconst (v := (nI 0)) (pc1 := 15) (pc := 14) k_M_within_14 rfl (by decide) ?_
    | refine T_retI (pc := 15) k_M_within_15 rfl (by first | rfl | decide | assumption) ?_)
  · exact kf (fun h => Int32.not_le.mpr hc h.1)
  · exact kf (fun h => Int32.not_le.mpr hc h.2)
  · exact kt (Int32.not_lt.mp (by assumption)) (Int32.not_lt.mp (by assumption))
theorem c_M_bitIs {b k : Nat} (G : GeoOK g) (hb : b < 14) (hk : k < 6) (kk : K (some (.int (I 102 (12 + 6 * b + k)))) g I) : Cl 1 M_M_bitIs [.ref 101, .int (nI b), .int (nI k)] g I K := by
  show Rl 1 M_M_bitIs 0 [some (.ref 101), some (.int (nI b)), some (.int (nI k))] [] g I K
  repeat' (first
    | refine T_aload_n (pc1 := 1) (pc := 0) k_M_bitIs_0 rfl rfl ?_
    | refine T_aload_nN (pc1 := 1) (pc := 0) k_M_bitIs_0 rfl rfl ?_
    | refine T_getR (pc1 := 4) (pc := 1) k_M_bitIs_1 rfl f_M_9 rfl (by first | exact ga G (by decide) rfl | assumption) (by first | exact gr G (by decide) rfl | assumption) ?_
    | refine T_bipush (v := (nI 12)) (pc1 := 6) (pc := 4) k_M_bitIs_4 rfl (by decide) ?_
    | refine T_bipush (v := (nI 6)) (pc1 := 8) (pc := 6) k_M_bitIs_6 rfl (by decide) ?_
    | refine T_iload_n (pc1 := 9) (pc := 8) k_M_bitIs_8 rfl rfl ?_
    | refine T_imulN (pc1 := 10) (pc := 9) k_M_bitIs_9 rfl ?_
    | refine T_imul (pc1 := 10) (pc := 9) k_M_bitIs_9 rfl ?_
    | refine T_iaddN (pc1 := 11) (pc := 10) k_M_bitIs_10 rfl ?_
    | refine T_iadd (pc1 := 11) (pc := 10) k_M_bitIs_10 rfl ?_
    | refine T_iload_n (pc1 := 12) (pc := 11) k_M_bitIs_11 rfl rfl ?_
    | refine T_iaddN (pc1 := 13) (pc := 12) k_M_bitIs_12 rfl ?_
    | refine T_iadd (pc1 := 13) (pc := 12) k_M_bitIs_12 rfl ?_
    | refine T_ialdN (pc1 := 14) (pc := 13) k_M_bitIs_13 rfl (by first | exact ga G (by decide) rfl | assumption) (by omega) (by omega) (by first | assumption | (simp (disch := omega) only [pI_eq, pI_row, pI_col, ne_eq, not_false_eq_true]; first | assumption | rfl) | rfl) ?_
    | refine T_iald (pc1 := 14) (pc := 13) k_M_bitIs_13 rfl (by first | exact ga G (by decide) rfl | assumption) (by assumption) ?_
    | refine T_retI (pc := 14) k_M_bitIs_14 rfl (by first | rfl | decide | assumption) ?_)
  exact kk
end M1
