/-! The model's small methods. -/
section M1
variable {g : Geo} {I : IM} {K : Option Value → Geo → IM → Prop}
theorem c_M_within {v lo hi : Int32} (kt : lo.toInt ≤ v.toInt ∧ v.toInt ≤ hi.toInt → K (some (.int (nI 1))) g I) (kf : ¬ (lo.toInt ≤ v.toInt ∧ v.toInt ≤ hi.toInt) → K (some (.int (nI 0))) g I) : Cl 1 M_M_within [.int v, .int lo, .int hi] g I K := by
  show Rl 1 M_M_within 0 [some (.int v), some (.int lo), some (.int hi)] [] g I K
  repeat' (first
    | refine T_iload_n (pc1 := 1) (pc := 0) k_M_within_0 rfl rfl ?_
    | refine T_iload_n (pc1 := 2) (pc := 1) k_M_within_1 rfl rfl ?_
    | (with_reducible refine T_icmp_ltN (tgt := 14) (pc1 := 5) (pc := 2) k_M_within_2 (by decide) (by decide) (by omega) (by omega) (fun hc => ?_) (fun hc => ?_) <;> first | (exfalso; omega) | skip)
    | refine T_icmp_lt_t (tgt := 14) (pc := 2) k_M_within_2 rfl (by decide) ?_
    | refine T_icmp_lt_f (tgt := 14) (pc1 := 5) (pc := 2) k_M_within_2 rfl rfl (by decide) ?_
    | refine T_icmp_lt (tgt := 14) (pc1 := 5) (pc := 2) k_M_within_2 rfl rfl (fun hc => ?_) (fun hc => ?_)
    | refine T_iload_n (pc1 := 6) (pc := 5) k_M_within_5 rfl rfl ?_
    | refine T_iload_n (pc1 := 7) (pc := 6) k_M_within_6 rfl rfl ?_
    | (with_reducible refine T_icmp_gtN (tgt := 14) (pc1 := 10) (pc := 7) k_M_within_7 (by decide) (by decide) (by omega) (by omega) (fun hc => ?_) (fun hc => ?_) <;> first | (exfalso; omega) | skip)
    | refine T_icmp_gt_t (tgt := 14) (pc := 7) k_M_within_7 rfl (by decide) ?_
    | refine T_icmp_gt_f (tgt := 14) (pc1 := 10) (pc := 7) k_M_within_7 rfl rfl (by decide) ?_
    | refine T_icmp_gt (tgt := 14) (pc1 := 10) (pc := 7) k_M_within_7 rfl rfl (fun hc => ?_) (fun hc => ?_)
    | refine T_iconst (v := (nI 1)) (pc1 := 11) (pc := 10) k_M_within_10 rfl (by decide) ?_
    | refine T_goto (tgt := 15) (pc := 11) k_M_within_11 rfl ?_
    | refine T_iconst (v := (nI 0)) (pc1 := 15) (pc := 14) k_M_within_14 rfl (by decide) ?_
    | refine T_retI (pc := 15) k_M_within_15 rfl (by first | rfl | decide | assumption) ?_)
  all_goals rw [lt_toInt] at *
  · exact kf (by omega)
  · exact kf (by omega)
  · exact kt (by omega)
theorem c_M_between {v lo hi : Int32} (kk : K (some (.int (hld lo hi v))) g I) : Cl 1 M_M_between [.int v, .int lo, .int hi] g I K := by
  show Rl 1 M_M_between 0 [some (.int v), some (.int lo), some (.int hi)] [] g I K
  repeat' (first
    | refine T_iload_n (pc1 := 1) (pc := 0) k_M_between_0 rfl rfl ?_
    | refine T_iload_n (pc1 := 2) (pc := 1) k_M_between_1 rfl rfl ?_
    | refine T_iload_n (pc1 := 3) (pc := 2) k_M_between_2 rfl rfl ?_
    | refine T_mmin (pc1 := 6) (pc := 3) k_M_between_3 rfl l_M_82 (by decide) (Nat.le_of_ble_eq_true rfl) ?_
    | refine T_mmax (pc1 := 9) (pc := 6) k_M_between_6 rfl l_M_88 (by decide) (Nat.le_of_ble_eq_true rfl) ?_
    | refine T_retI (pc := 9) k_M_between_9 rfl (by first | rfl | decide | assumption) ?_)
  exact kk
theorem c_M_become {j : Nat} {v : Int32} (G : GeoOK g) (hj : j < 1556) (kk : K (some (.int (I 102 j))) g (pI I 102 j v)) : Cl 1 M_M_become [.ref 101, .int (nI j), .int v] g I K := by
  show Rl 1 M_M_become 0 [some (.ref 101), some (.int (nI j)), some (.int v), none] [] g I K
  repeat' (first
    | refine T_aload_n (pc1 := 1) (pc := 0) k_M_become_0 rfl rfl ?_
    | refine T_aload_nN (pc1 := 1) (pc := 0) k_M_become_0 rfl rfl ?_
    | refine T_getR (pc1 := 4) (pc := 1) k_M_become_1 rfl f_M_9 rfl (by first | exact ga G (by decide) rfl | assumption) (by first | exact gr G (by decide) rfl | assumption) ?_
    | refine T_iload_n (pc1 := 5) (pc := 4) k_M_become_4 rfl rfl ?_
    | refine T_ialdN (pc1 := 6) (pc := 5) k_M_become_5 rfl (by first | exact ga G (by decide) rfl | assumption) (by omega) (by omega) (by first | assumption | (simp (disch := omega) only [pI_eq, pI_row, pI_col, va_up_self, va_up_ne, ne_eq, not_false_eq_true] <;> rfl) | rfl) ?_
    | refine T_iald (pc1 := 6) (pc := 5) k_M_become_5 rfl (by first | exact ga G (by decide) rfl | assumption) (by assumption) ?_
    | refine T_istore_n (pc1 := 7) (pc := 6) k_M_become_6 rfl (Nat.le_of_ble_eq_true rfl) ?_
    | refine T_aload_n (pc1 := 8) (pc := 7) k_M_become_7 rfl rfl ?_
    | refine T_aload_nN (pc1 := 8) (pc := 7) k_M_become_7 rfl rfl ?_
    | refine T_getR (pc1 := 11) (pc := 8) k_M_become_8 rfl f_M_9 rfl (by first | exact ga G (by decide) rfl | assumption) (by first | exact gr G (by decide) rfl | assumption) ?_
    | refine T_iload_n (pc1 := 12) (pc := 11) k_M_become_11 rfl rfl ?_
    | refine T_iload_n (pc1 := 13) (pc := 12) k_M_become_12 rfl rfl ?_
    | refine T_iastN (pc1 := 14) (pc := 13) k_M_become_13 rfl (by first | exact ga G (by decide) rfl | assumption) (by omega) (by omega) ?_
    | refine T_iload_n (pc1 := 15) (pc := 14) k_M_become_14 rfl rfl ?_
    | refine T_retI (pc := 15) k_M_become_15 rfl (by first | rfl | decide | assumption) ?_)
  exact kk
theorem c_M_bitIs {b k : Nat} {v : Int32} (G : GeoOK g) (hb : b < 14) (hk : k < 6) (hv : I 102 (12 + 6 * b + k) = v) (kk : K (some (.int v)) g I) : Cl 1 M_M_bitIs [.ref 101, .int (nI b), .int (nI k)] g I K := by
  show Rl 1 M_M_bitIs 0 [some (.ref 101), some (.int (nI b)), some (.int (nI k))] [] g I K
  repeat' (first
    | refine T_aload_n (pc1 := 1) (pc := 0) k_M_bitIs_0 rfl rfl ?_
    | refine T_aload_nN (pc1 := 1) (pc := 0) k_M_bitIs_0 rfl rfl ?_
    | refine T_getR (pc1 := 4) (pc := 1) k_M_bitIs_1 rfl f_M_9 rfl (by first | exact ga G (by decide) rfl | assumption) (by first | exact gr G (by decide) rfl | assumption) ?_
    | refine T_bipush (v := (nI 12)) (pc1 := 6) (pc := 4) k_M_bitIs_4 rfl (by decide) ?_
    | refine T_bipush (v := (nI 6)) (pc1 := 8) (pc := 6) k_M_bitIs_6 rfl (by decide) ?_
    | refine T_iload_n (pc1 := 9) (pc := 8) k_M_bitIs_8 rfl rfl ?_
    | with_reducible refine T_imulN (pc1 := 10) (pc := 9) k_M_bitIs_9 (by decide) ?_
    | refine T_imul (pc1 := 10) (pc := 9) k_M_bitIs_9 rfl ?_
    | with_reducible refine T_iaddN (pc1 := 11) (pc := 10) k_M_bitIs_10 (by decide) ?_
    | refine T_iadd (pc1 := 11) (pc := 10) k_M_bitIs_10 rfl ?_
    | refine T_iload_n (pc1 := 12) (pc := 11) k_M_bitIs_11 rfl rfl ?_
    | with_reducible refine T_iaddN (pc1 := 13) (pc := 12) k_M_bitIs_12 (by decide) ?_
    | refine T_iadd (pc1 := 13) (pc := 12) k_M_bitIs_12 rfl ?_
    | refine T_ialdN (pc1 := 14) (pc := 13) k_M_bitIs_13 rfl (by first | exact ga G (by decide) rfl | assumption) (by omega) (by omega) (by first | assumption | (simp (disch := omega) only [pI_eq, pI_row, pI_col, va_up_self, va_up_ne, ne_eq, not_false_eq_true] <;> rfl) | rfl) ?_
    | refine T_iald (pc1 := 14) (pc := 13) k_M_bitIs_13 rfl (by first | exact ga G (by decide) rfl | assumption) (by assumption) ?_
    | refine T_retI (pc := 14) k_M_bitIs_14 rfl (by first | rfl | decide | assumption) ?_)
  exact kk
theorem c_M_isSpot {v : Int32} (kt : rg 8 v → K (some (.int (nI 1))) g I) (kf : ¬ rg 8 v → K (some (.int (nI 0))) g I) : Cl 2 M_M_isSpot [.int v] g I K := by
  show Rl 2 M_M_isSpot 0 [some (.int v)] [] g I K
  have e0 : (nI 0).toInt = 0 := rfl
  have e7 : (nI 7).toInt = 7 := rfl
  repeat' (first
    | refine T_iload_n (pc1 := 1) (pc := 0) k_M_isSpot_0 rfl rfl ?_
    | refine T_iconst (v := (nI 0)) (pc1 := 2) (pc := 1) k_M_isSpot_1 rfl (by decide) ?_
    | refine T_bipush (v := (nI 7)) (pc1 := 4) (pc := 2) k_M_isSpot_2 rfl (by decide) ?_
    | (refine T_cS (As := [_, _, _]) (d1 := 1) (pc1 := 7) (pc := 4) k_M_isSpot_4 rfl (by decide) (Nat.le_of_ble_eq_true rfl) rfl o_M_within l_M_95 rfl (c_M_within (fun hw => ?_) (fun hw => ?_)) <;> try dsimp only [psh])
    | refine T_retI (pc := 7) k_M_isSpot_7 rfl (by first | rfl | decide | assumption) ?_)
  · exact kt (by constructor <;> omega)
  · exact kf (fun h => hw (by constructor <;> omega))
theorem c_M_isKind {v : Int32} (kt : rg 6 v → K (some (.int (nI 1))) g I) (kf : ¬ rg 6 v → K (some (.int (nI 0))) g I) : Cl 2 M_M_isKind [.int v] g I K := by
  show Rl 2 M_M_isKind 0 [some (.int v)] [] g I K
  have e0 : (nI 0).toInt = 0 := rfl
  have e7 : (nI 5).toInt = 5 := rfl
  repeat' (first
    | refine T_iload_n (pc1 := 1) (pc := 0) k_M_isKind_0 rfl rfl ?_
    | refine T_iconst (v := (nI 0)) (pc1 := 2) (pc := 1) k_M_isKind_1 rfl (by decide) ?_
    | refine T_iconst (v := (nI 5)) (pc1 := 3) (pc := 2) k_M_isKind_2 rfl (by decide) ?_
    | (refine T_cS (As := [_, _, _]) (d1 := 1) (pc1 := 6) (pc := 3) k_M_isKind_3 rfl (by decide) (Nat.le_of_ble_eq_true rfl) rfl o_M_within l_M_95 rfl (c_M_within (fun hw => ?_) (fun hw => ?_)) <;> try dsimp only [psh])
    | refine T_retI (pc := 6) k_M_isKind_6 rfl (by first | rfl | decide | assumption) ?_)
  · exact kt (by constructor <;> omega)
  · exact kf (fun h => hw (by constructor <;> omega))
theorem c_M_isSheet {v : Int32} (kt : rg 4 v → K (some (.int (nI 1))) g I) (kf : ¬ rg 4 v → K (some (.int (nI 0))) g I) : Cl 2 M_M_isSheet [.int v] g I K := by
  show Rl 2 M_M_isSheet 0 [some (.int v)] [] g I K
  have e0 : (nI 0).toInt = 0 := rfl
  have e7 : (nI 3).toInt = 3 := rfl
  repeat' (first
    | refine T_iload_n (pc1 := 1) (pc := 0) k_M_isSheet_0 rfl rfl ?_
    | refine T_iconst (v := (nI 0)) (pc1 := 2) (pc := 1) k_M_isSheet_1 rfl (by decide) ?_
    | refine T_iconst (v := (nI 3)) (pc1 := 3) (pc := 2) k_M_isSheet_2 rfl (by decide) ?_
    | (refine T_cS (As := [_, _, _]) (d1 := 1) (pc1 := 6) (pc := 3) k_M_isSheet_3 rfl (by decide) (Nat.le_of_ble_eq_true rfl) rfl o_M_within l_M_95 rfl (c_M_within (fun hw => ?_) (fun hw => ?_)) <;> try dsimp only [psh])
    | refine T_retI (pc := 6) k_M_isSheet_6 rfl (by first | rfl | decide | assumption) ?_)
  · exact kt (by constructor <;> omega)
  · exact kf (fun h => hw (by constructor <;> omega))
theorem c_M_isSlot {v : Int32} (kt : rg 5 v → K (some (.int (nI 1))) g I) (kf : ¬ rg 5 v → K (some (.int (nI 0))) g I) : Cl 2 M_M_isSlot [.int v] g I K := by
  show Rl 2 M_M_isSlot 0 [some (.int v)] [] g I K
  have e0 : (nI 0).toInt = 0 := rfl
  have e7 : (nI 4).toInt = 4 := rfl
  repeat' (first
    | refine T_iload_n (pc1 := 1) (pc := 0) k_M_isSlot_0 rfl rfl ?_
    | refine T_iconst (v := (nI 0)) (pc1 := 2) (pc := 1) k_M_isSlot_1 rfl (by decide) ?_
    | refine T_iconst (v := (nI 4)) (pc1 := 3) (pc := 2) k_M_isSlot_2 rfl (by decide) ?_
    | (refine T_cS (As := [_, _, _]) (d1 := 1) (pc1 := 6) (pc := 3) k_M_isSlot_3 rfl (by decide) (Nat.le_of_ble_eq_true rfl) rfl o_M_within l_M_95 rfl (c_M_within (fun hw => ?_) (fun hw => ?_)) <;> try dsimp only [psh])
    | refine T_retI (pc := 6) k_M_isSlot_6 rfl (by first | rfl | decide | assumption) ?_)
  · exact kt (by constructor <;> omega)
  · exact kf (fun h => hw (by constructor <;> omega))
theorem c_M_areSpots {v w : Int32} (kt : rg 8 v ∧ rg 8 w → K (some (.int (nI 1))) g I) (kf : ¬ (rg 8 v ∧ rg 8 w) → K (some (.int (nI 0))) g I) : Cl 3 M_M_areSpots [.int v, .int w] g I K := by
  show Rl 3 M_M_areSpots 0 [some (.int v), some (.int w)] [] g I K
  repeat' (first
    | refine T_iload_n (pc1 := 1) (pc := 0) k_M_areSpots_0 rfl rfl ?_
    | (refine T_cS (As := [_]) (d1 := 2) (pc1 := 4) (pc := 1) k_M_areSpots_1 rfl (by decide) (Nat.le_of_ble_eq_true rfl) rfl o_M_isSpot l_M_99 rfl (c_M_isSpot (fun hw => ?_) (fun hw => ?_)) <;> try dsimp only [psh])
    | (with_reducible refine T_if_eqN (tgt := 18) (pc1 := 7) (pc := 4) k_M_areSpots_4 (by decide) (by decide) (by omega) (fun hc => ?_) (fun hc => ?_) <;> first | (exfalso; omega) | skip)
    | refine T_if_eq_t (tgt := 18) (pc := 4) k_M_areSpots_4 rfl (by decide) ?_
    | refine T_if_eq_f (tgt := 18) (pc1 := 7) (pc := 4) k_M_areSpots_4 rfl rfl (by decide) ?_
    | refine T_if_eq (tgt := 18) (pc1 := 7) (pc := 4) k_M_areSpots_4 rfl rfl (fun hc => ?_) (fun hc => ?_)
    | refine T_iload_n (pc1 := 8) (pc := 7) k_M_areSpots_7 rfl rfl ?_
    | (refine T_cS (As := [_]) (d1 := 2) (pc1 := 11) (pc := 8) k_M_areSpots_8 rfl (by decide) (Nat.le_of_ble_eq_true rfl) rfl o_M_isSpot l_M_99 rfl (c_M_isSpot (fun hw => ?_) (fun hw => ?_)) <;> try dsimp only [psh])
    | (with_reducible refine T_if_eqN (tgt := 18) (pc1 := 14) (pc := 11) k_M_areSpots_11 (by decide) (by decide) (by omega) (fun hc => ?_) (fun hc => ?_) <;> first | (exfalso; omega) | skip)
    | refine T_if_eq_t (tgt := 18) (pc := 11) k_M_areSpots_11 rfl (by decide) ?_
    | refine T_if_eq_f (tgt := 18) (pc1 := 14) (pc := 11) k_M_areSpots_11 rfl rfl (by decide) ?_
    | refine T_if_eq (tgt := 18) (pc1 := 14) (pc := 11) k_M_areSpots_11 rfl rfl (fun hc => ?_) (fun hc => ?_)
    | refine T_iconst (v := (nI 1)) (pc1 := 15) (pc := 14) k_M_areSpots_14 rfl (by decide) ?_
    | refine T_goto (tgt := 19) (pc := 15) k_M_areSpots_15 rfl ?_
    | refine T_iconst (v := (nI 0)) (pc1 := 19) (pc := 18) k_M_areSpots_18 rfl (by decide) ?_
    | refine T_retI (pc := 19) k_M_areSpots_19 rfl (by first | rfl | decide | assumption) ?_)
  · exact kt ⟨by assumption, by assumption⟩
  · exact kf (fun h => hw h.2)
  · exact kf (fun h => hw h.1)
theorem sub1_toInt {n : Nat} (hn : n < 2147483648) : (nI n - nI 1).toInt = (n : Int) - 1 := by
  by_cases h : n = 0
  · subst h; rfl
  · rw [pk_sub (by omega), nI_toInt (by omega)]
    omega
theorem c_M_isBit {N : Row} {n : Nat} {v : Int32} (G : GeoOK g) (hN : I 102 = N) (hn : N 5 = nI n) (h14 : n ≤ 14) (kt : rg n v → K (some (.int (nI 1))) g I) (kf : ¬ rg n v → K (some (.int (nI 0))) g I) : Cl 2 M_M_isBit [.ref 101, .int v] g I K := by
  show Rl 2 M_M_isBit 0 [some (.ref 101), some (.int v)] [] g I K
  have e0 : (nI 0).toInt = 0 := rfl
  have e1 := sub1_toInt (n := n) (by omega)
  repeat' (first
    | refine T_iload_n (pc1 := 1) (pc := 0) k_M_isBit_0 rfl rfl ?_
    | refine T_iconst (v := (nI 0)) (pc1 := 2) (pc := 1) k_M_isBit_1 rfl (by decide) ?_
    | refine T_aload_n (pc1 := 3) (pc := 2) k_M_isBit_2 rfl rfl ?_
    | refine T_aload_nN (pc1 := 3) (pc := 2) k_M_isBit_2 rfl rfl ?_
    | refine T_getR (pc1 := 6) (pc := 3) k_M_isBit_3 rfl f_M_9 rfl (by first | exact ga G (by decide) rfl | assumption) (by first | exact gr G (by decide) rfl | assumption) ?_
    | refine T_iconst (v := (nI 5)) (pc1 := 7) (pc := 6) k_M_isBit_6 rfl (by decide) ?_
    | refine T_ialdN (pc1 := 8) (pc := 7) k_M_isBit_7 rfl (by first | exact ga G (by decide) rfl | assumption) (by omega) (by omega) (by first | assumption | (simp (disch := omega) only [pI_eq, pI_row, pI_col, va_up_self, va_up_ne, ne_eq, not_false_eq_true, hN, hn] <;> rfl) | rfl) ?_
    | refine T_iald (pc1 := 8) (pc := 7) k_M_isBit_7 rfl (by first | exact ga G (by decide) rfl | assumption) (by assumption) ?_
    | refine T_iconst (v := (nI 1)) (pc1 := 9) (pc := 8) k_M_isBit_8 rfl (by decide) ?_
    | with_reducible refine T_isubN (pc1 := 10) (pc := 9) k_M_isBit_9 (by decide) (by omega) ?_
    | refine T_isub (pc1 := 10) (pc := 9) k_M_isBit_9 rfl ?_
    | (refine T_cS (As := [_, _, _]) (d1 := 1) (pc1 := 13) (pc := 10) k_M_isBit_10 rfl (by decide) (Nat.le_of_ble_eq_true rfl) rfl o_M_within l_M_95 rfl (c_M_within (fun hw => ?_) (fun hw => ?_)) <;> try dsimp only [psh])
    | refine T_retI (pc := 13) k_M_isBit_13 rfl (by first | rfl | decide | assumption) ?_)
  · exact kt (by constructor <;> omega)
  · exact kf (fun h => hw (by constructor <;> omega))
end M1
